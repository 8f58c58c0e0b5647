def f_X0_spot (a0 : Int32) (a1 : Int32) (a2 : Int32) : Option Int32 :=
  some (((((a0 * (8 : Int32)) + a1) * (8 : Int32)) + a2))
set_option maxHeartbeats 2000000 in
set_option maxRecDepth 20000 in
theorem M_X0_spot {g : GT} {a0 : Int32} {a1 : Int32} {a2 : Int32} {h : Hp} {r : Int32} (hf : f_X0_spot a0 a1 a2 = some r) : CM g yX0_spot cX0_spot 3 (some .int) 6 0 0 [.int a0, .int a1, .int a2] h (.inr (some (.int r))) h := by
  refine CM_of rfl (fun _ => Nat.le_of_ble_eq_true rfl) (fun Γ C hn0 => ?_)
  have C : Cx g Γ cX0_spot RX0 "spot" 3 (some .int) 6 0 0 := C
  generalize hQ : Qe g Γ (.inr (some (.int r))) h 0 0 = Q
  show U g Γ 3 Q 0 0 0 [(0, .int a0), (1, .int a1), (2, .int a2)] [] h
  unfold f_X0_spot at hf
  refine U_iload_n (n := 1) 0 C dX0_spot_0 rfl rfl ?_
  refine U_bipush (n := 3) (8 : Int32) C dX0_spot_1 kbipush_8 rfl ?_
  refine U_imul (n := 4) C dX0_spot_3 rfl ?_
  refine U_iload_n (n := 5) 1 C dX0_spot_4 rfl rfl ?_
  refine U_iadd (n := 6) C dX0_spot_5 rfl ?_
  refine U_bipush (n := 8) (8 : Int32) C dX0_spot_6 kbipush_8 rfl ?_
  refine U_imul (n := 9) C dX0_spot_8 rfl ?_
  refine U_iload_n (n := 10) 2 C dX0_spot_9 rfl rfl ?_
  refine U_iadd (n := 11) C dX0_spot_10 rfl ?_
  have hr := (Option.some.inj hf)
  subst hr
  subst hQ
  exact U_iret C dX0_spot_11 (Nat.le_refl 0) (Nat.le_refl 0)
def f_X0_enter (o : Nat) (a1 : Int32) (a2 : Int32) (a3 : Int32) (a4 : Int32) (h : Hp) : Option Hp :=
  (rc 0 h o).bind fun _ =>
  (fR 0 4 h o).bind fun v1 =>
  (f_X0_spot a1 a2 a3).bind fun v2 =>
  (fI 0 1 h o).bind fun v3 =>
  (wI h v1 v2 v3).bind fun h4 =>
  (fR 0 5 h4 o).bind fun v5 =>
  (f_X0_spot a1 a2 a3).bind fun v6 =>
  (wI h4 v5 v6 a4).bind fun h7 =>
  some (h7)
theorem rc_X0_enter {o : Nat} {a1 : Int32} {a2 : Int32} {a3 : Int32} {a4 : Int32} {h : Hp} {z} (hf : f_X0_enter o a1 a2 a3 a4 h = some z) : rc 0 h o = some () := by
  unfold f_X0_enter at hf
  exact (bsome hf).choose_spec.1
set_option maxHeartbeats 2000000 in
set_option maxRecDepth 20000 in
theorem M_X0_enter {g : GT} {o : Nat} {a1 : Int32} {a2 : Int32} {a3 : Int32} {a4 : Int32} {h : Hp} {h2 : Hp} (hf : f_X0_enter o a1 a2 a3 a4 h = some h2) : CM g yX0_enter cX0_enter 5 none 7 0 0 [.ref o, .int a1, .int a2, .int a3, .int a4] h (.inr none) h2 := by
  refine CM_of rfl (fun _ => Nat.le_of_ble_eq_true rfl) (fun Γ C hn0 => ?_)
  have C : Cx g Γ cX0_enter RX0 "enter" 5 none 7 0 0 := C
  generalize hQ : Qe g Γ (.inr none) h2 0 0 = Q
  show U g Γ 5 Q 0 0 0 [(0, .ref o), (1, .int a1), (2, .int a2), (3, .int a3), (4, .int a4)] [] h
  unfold f_X0_enter at hf
  replace hf := (bsome hf).choose_spec.2
  refine U_aload_n (n := 1) 0 C dX0_enter_0 rfl rfl rfl ?_
  refine gf_RX0_25 (n := 4) C dX0_enter_1 hf rfl (fun v1 hf => ?_)
  refine U_iload_n (n := 5) 1 C dX0_enter_4 rfl rfl ?_
  refine U_iload_n (n := 6) 2 C dX0_enter_5 rfl rfl ?_
  refine U_iload_n (n := 7) 3 C dX0_enter_6 rfl rfl ?_
  obtain ⟨v2, ev2, hf⟩ := bsome hf
  refine cv_RX0_59 (n := 10) C dX0_enter_7 (av := [.int a1, .int a2, .int a3]) rfl (M_X0_spot ev2) (Nat.le_of_ble_eq_true rfl) (Nat.zero_le _) (Nat.zero_le _) (Nat.le_of_ble_eq_true rfl) rfl ?_
  refine U_aload_n (n := 11) 0 C dX0_enter_10 rfl rfl rfl ?_
  refine gf_RX0_15 (n := 14) C dX0_enter_11 hf rfl (fun v3 hf => ?_)
  refine U_iast (n := 15) C dX0_enter_14 hf rfl (fun h4 hf => ?_)
  refine U_aload_n (n := 16) 0 C dX0_enter_15 rfl rfl rfl ?_
  refine gf_RX0_28 (n := 19) C dX0_enter_16 hf rfl (fun v5 hf => ?_)
  refine U_iload_n (n := 20) 1 C dX0_enter_19 rfl rfl ?_
  refine U_iload_n (n := 21) 2 C dX0_enter_20 rfl rfl ?_
  refine U_iload_n (n := 22) 3 C dX0_enter_21 rfl rfl ?_
  obtain ⟨v6, ev6, hf⟩ := bsome hf
  refine cv_RX0_59 (n := 25) C dX0_enter_22 (av := [.int a1, .int a2, .int a3]) rfl (M_X0_spot ev6) (Nat.le_of_ble_eq_true rfl) (Nat.zero_le _) (Nat.zero_le _) (Nat.le_of_ble_eq_true rfl) rfl ?_
  refine U_iload (n := 27) 4 C dX0_enter_25 rfl rfl ?_
  refine U_iast (n := 28) C dX0_enter_27 hf rfl (fun h7 hf => ?_)
  have hr := (Option.some.inj hf)
  subst hr
  subst hQ
  exact U_vret C dX0_enter_28 (Nat.le_refl 0) (Nat.le_refl 0)
def f_X0_addTriple (o : Nat) (a1 : Int32) (a2 : Int32) (a3 : Int32) (h : Hp) : Option Hp :=
  (rc 0 h o).bind fun _ =>
  (fI 0 1 h o).bind fun v1 =>
  (fR 0 3 h o).bind fun v2 =>
  (wI h v2 (v1 * (3 : Int32)) a1).bind fun h3 =>
  (fR 0 3 h3 o).bind fun v4 =>
  (wI h3 v4 ((v1 * (3 : Int32)) + (1 : Int32)) a2).bind fun h5 =>
  (fR 0 3 h5 o).bind fun v6 =>
  (wI h5 v6 ((v1 * (3 : Int32)) + (2 : Int32)) a3).bind fun h7 =>
  (f_X0_enter o a1 a2 a3 (1 : Int32) h7).bind fun h9 =>
  (f_X0_enter o a2 a3 a1 (1 : Int32) h9).bind fun h11 =>
  (f_X0_enter o a3 a1 a2 (1 : Int32) h11).bind fun h13 =>
  (f_X0_enter o a1 a3 a2 (-1 : Int32) h13).bind fun h15 =>
  (f_X0_enter o a3 a2 a1 (-1 : Int32) h15).bind fun h17 =>
  (f_X0_enter o a2 a1 a3 (-1 : Int32) h17).bind fun h19 =>
  (fI 0 1 h19 o).bind fun v20 =>
  (sF 0 1 (.int (v20 + (1 : Int32))) h19 o).bind fun h21 =>
  some (h21)
theorem rc_X0_addTriple {o : Nat} {a1 : Int32} {a2 : Int32} {a3 : Int32} {h : Hp} {z} (hf : f_X0_addTriple o a1 a2 a3 h = some z) : rc 0 h o = some () := by
  unfold f_X0_addTriple at hf
  exact (bsome hf).choose_spec.1
set_option maxHeartbeats 2000000 in
set_option maxRecDepth 20000 in
theorem M_X0_addTriple {g : GT} {o : Nat} {a1 : Int32} {a2 : Int32} {a3 : Int32} {h : Hp} {h2 : Hp} (hf : f_X0_addTriple o a1 a2 a3 h = some h2) : CM g yX0_addTriple cX0_addTriple 5 none 8 0 0 [.ref o, .int a1, .int a2, .int a3] h (.inr none) h2 := by
  refine CM_of rfl (fun _ => Nat.le_of_ble_eq_true rfl) (fun Γ C hn0 => ?_)
  have C : Cx g Γ cX0_addTriple RX0 "addTriple" 5 none 8 0 0 := C
  generalize hQ : Qe g Γ (.inr none) h2 0 0 = Q
  show U g Γ 5 Q 0 0 0 [(0, .ref o), (1, .int a1), (2, .int a2), (3, .int a3)] [] h
  unfold f_X0_addTriple at hf
  replace hf := (bsome hf).choose_spec.2
  refine U_aload_n (n := 1) 0 C dX0_addTriple_0 rfl rfl rfl ?_
  refine gf_RX0_15 (n := 4) C dX0_addTriple_1 hf rfl (fun v1 hf => ?_)
  refine U_iconst (n := 5) (3 : Int32) C dX0_addTriple_4 kiconst_3 rfl ?_
  refine U_imul (n := 6) C dX0_addTriple_5 rfl ?_
  refine U_istore (n := 8) (lv2 := [(4, .int (v1 * (3 : Int32))), (0, .ref o), (1, .int a1), (2, .int a2), (3, .int a3)]) C dX0_addTriple_6 (by decide) rfl rfl ?_
  refine U_aload_n (n := 9) 1 C dX0_addTriple_8 rfl rfl rfl ?_
  refine gf_RX0_21 (n := 12) C dX0_addTriple_9 hf rfl (fun v2 hf => ?_)
  refine U_iload (n := 14) 0 C dX0_addTriple_12 rfl rfl ?_
  refine U_iload_n (n := 15) 2 C dX0_addTriple_14 rfl rfl ?_
  refine U_iast (n := 16) C dX0_addTriple_15 hf rfl (fun h3 hf => ?_)
  refine U_aload_n (n := 17) 1 C dX0_addTriple_16 rfl rfl rfl ?_
  refine gf_RX0_21 (n := 20) C dX0_addTriple_17 hf rfl (fun v4 hf => ?_)
  refine U_iload (n := 22) 0 C dX0_addTriple_20 rfl rfl ?_
  refine U_iconst (n := 23) (1 : Int32) C dX0_addTriple_22 kiconst_1 rfl ?_
  refine U_iadd (n := 24) C dX0_addTriple_23 rfl ?_
  refine U_iload_n (n := 25) 3 C dX0_addTriple_24 rfl rfl ?_
  refine U_iast (n := 26) C dX0_addTriple_25 hf rfl (fun h5 hf => ?_)
  refine U_aload_n (n := 27) 1 C dX0_addTriple_26 rfl rfl rfl ?_
  refine gf_RX0_21 (n := 30) C dX0_addTriple_27 hf rfl (fun v6 hf => ?_)
  refine U_iload (n := 32) 0 C dX0_addTriple_30 rfl rfl ?_
  refine U_iconst (n := 33) (2 : Int32) C dX0_addTriple_32 kiconst_2 rfl ?_
  refine U_iadd (n := 34) C dX0_addTriple_33 rfl ?_
  refine U_iload_n (n := 35) 4 C dX0_addTriple_34 rfl rfl ?_
  refine U_iast (n := 36) C dX0_addTriple_35 hf rfl (fun h7 hf => ?_)
  refine U_aload_n (n := 37) 1 C dX0_addTriple_36 rfl rfl rfl ?_
  refine U_iload_n (n := 38) 2 C dX0_addTriple_37 rfl rfl ?_
  refine U_iload_n (n := 39) 3 C dX0_addTriple_38 rfl rfl ?_
  refine U_iload_n (n := 40) 4 C dX0_addTriple_39 rfl rfl ?_
  refine U_iconst (n := 41) (1 : Int32) C dX0_addTriple_40 kiconst_1 rfl ?_
  obtain ⟨h9, ev8, hf⟩ := bsome hf
  refine cv_RX0_55 (n := 44) C dX0_addTriple_41 (av := [.int a1, .int a2, .int a3, .int (1 : Int32)]) rfl (rc_X0_enter ev8) (M_X0_enter ev8) (Nat.le_of_ble_eq_true rfl) (Nat.zero_le _) (Nat.zero_le _) (Nat.le_of_ble_eq_true rfl) rfl ?_
  refine U_aload_n (n := 45) 1 C dX0_addTriple_44 rfl rfl rfl ?_
  refine U_iload_n (n := 46) 3 C dX0_addTriple_45 rfl rfl ?_
  refine U_iload_n (n := 47) 4 C dX0_addTriple_46 rfl rfl ?_
  refine U_iload_n (n := 48) 2 C dX0_addTriple_47 rfl rfl ?_
  refine U_iconst (n := 49) (1 : Int32) C dX0_addTriple_48 kiconst_1 rfl ?_
  obtain ⟨h11, ev10, hf⟩ := bsome hf
  refine cv_RX0_55 (n := 52) C dX0_addTriple_49 (av := [.int a2, .int a3, .int a1, .int (1 : Int32)]) rfl (rc_X0_enter ev10) (M_X0_enter ev10) (Nat.le_of_ble_eq_true rfl) (Nat.zero_le _) (Nat.zero_le _) (Nat.le_of_ble_eq_true rfl) rfl ?_
  refine U_aload_n (n := 53) 1 C dX0_addTriple_52 rfl rfl rfl ?_
  refine U_iload_n (n := 54) 4 C dX0_addTriple_53 rfl rfl ?_
  refine U_iload_n (n := 55) 2 C dX0_addTriple_54 rfl rfl ?_
  refine U_iload_n (n := 56) 3 C dX0_addTriple_55 rfl rfl ?_
  refine U_iconst (n := 57) (1 : Int32) C dX0_addTriple_56 kiconst_1 rfl ?_
  obtain ⟨h13, ev12, hf⟩ := bsome hf
  refine cv_RX0_55 (n := 60) C dX0_addTriple_57 (av := [.int a3, .int a1, .int a2, .int (1 : Int32)]) rfl (rc_X0_enter ev12) (M_X0_enter ev12) (Nat.le_of_ble_eq_true rfl) (Nat.zero_le _) (Nat.zero_le _) (Nat.le_of_ble_eq_true rfl) rfl ?_
  refine U_aload_n (n := 61) 1 C dX0_addTriple_60 rfl rfl rfl ?_
  refine U_iload_n (n := 62) 2 C dX0_addTriple_61 rfl rfl ?_
  refine U_iload_n (n := 63) 4 C dX0_addTriple_62 rfl rfl ?_
  refine U_iload_n (n := 64) 3 C dX0_addTriple_63 rfl rfl ?_
  refine U_iconst (n := 65) (-1 : Int32) C dX0_addTriple_64 kiconst_m1 rfl ?_
  obtain ⟨h15, ev14, hf⟩ := bsome hf
  refine cv_RX0_55 (n := 68) C dX0_addTriple_65 (av := [.int a1, .int a3, .int a2, .int (-1 : Int32)]) rfl (rc_X0_enter ev14) (M_X0_enter ev14) (Nat.le_of_ble_eq_true rfl) (Nat.zero_le _) (Nat.zero_le _) (Nat.le_of_ble_eq_true rfl) rfl ?_
  refine U_aload_n (n := 69) 1 C dX0_addTriple_68 rfl rfl rfl ?_
  refine U_iload_n (n := 70) 4 C dX0_addTriple_69 rfl rfl ?_
  refine U_iload_n (n := 71) 3 C dX0_addTriple_70 rfl rfl ?_
  refine U_iload_n (n := 72) 2 C dX0_addTriple_71 rfl rfl ?_
  refine U_iconst (n := 73) (-1 : Int32) C dX0_addTriple_72 kiconst_m1 rfl ?_
  obtain ⟨h17, ev16, hf⟩ := bsome hf
  refine cv_RX0_55 (n := 76) C dX0_addTriple_73 (av := [.int a3, .int a2, .int a1, .int (-1 : Int32)]) rfl (rc_X0_enter ev16) (M_X0_enter ev16) (Nat.le_of_ble_eq_true rfl) (Nat.zero_le _) (Nat.zero_le _) (Nat.le_of_ble_eq_true rfl) rfl ?_
  refine U_aload_n (n := 77) 1 C dX0_addTriple_76 rfl rfl rfl ?_
  refine U_iload_n (n := 78) 3 C dX0_addTriple_77 rfl rfl ?_
  refine U_iload_n (n := 79) 2 C dX0_addTriple_78 rfl rfl ?_
  refine U_iload_n (n := 80) 4 C dX0_addTriple_79 rfl rfl ?_
  refine U_iconst (n := 81) (-1 : Int32) C dX0_addTriple_80 kiconst_m1 rfl ?_
  obtain ⟨h19, ev18, hf⟩ := bsome hf
  refine cv_RX0_55 (n := 84) C dX0_addTriple_81 (av := [.int a2, .int a1, .int a3, .int (-1 : Int32)]) rfl (rc_X0_enter ev18) (M_X0_enter ev18) (Nat.le_of_ble_eq_true rfl) (Nat.zero_le _) (Nat.zero_le _) (Nat.le_of_ble_eq_true rfl) rfl ?_
  refine U_aload_n (n := 85) 1 C dX0_addTriple_84 rfl rfl rfl ?_
  refine U_dup (n := 86) C dX0_addTriple_85 rfl rfl ?_
  refine gf_RX0_15 (n := 89) C dX0_addTriple_86 hf rfl (fun v20 hf => ?_)
  refine U_iconst (n := 90) (1 : Int32) C dX0_addTriple_89 kiconst_1 rfl ?_
  refine U_iadd (n := 91) C dX0_addTriple_90 rfl ?_
  refine pf_RX0_15 (n := 94) C dX0_addTriple_91 hf rfl (fun h21 hf => ?_)
  have hr := (Option.some.inj hf)
  subst hr
  subst hQ
  exact U_vret C dX0_addTriple_94 (Nat.le_refl 0) (Nat.le_refl 0)
def l_X0_arrangeTriples_31 (p0 : Nat) (p1 : Int32) (p2 : Int32) : Nat → Int32 → Hp → Option Hp
  | 0, _, _ => none
  | fuel + 1, x3, h =>
    (fI 0 0 h p0).bind fun v6 =>
    if v6 ≤ x3 then (
      some h
    ) else (
      (f_X0_addTriple p0 p1 p2 x3 h).bind fun h9 =>
      l_X0_arrangeTriples_31 p0 p1 p2 fuel (x3 + 1) h9
    )
def l_X0_arrangeTriples_19 (p0 : Nat) (p1 : Int32) : Nat → Int32 → Hp → Option Hp
  | 0, _, _ => none
  | fuel + 1, x2, h =>
    (fI 0 0 h p0).bind fun v4 =>
    if v4 ≤ x2 then (
      some h
    ) else (
      (l_X0_arrangeTriples_31 p0 p1 x2 FU (x2 + (1 : Int32)) h).bind fun h10 =>
      l_X0_arrangeTriples_19 p0 p1 fuel (x2 + 1) h10
    )
def l_X0_arrangeTriples_7 (p0 : Nat) : Nat → Int32 → Hp → Option Hp
  | 0, _, _ => none
  | fuel + 1, x1, h =>
    (fI 0 0 h p0).bind fun v2 =>
    if v2 ≤ x1 then (
      some h
    ) else (
      (l_X0_arrangeTriples_19 p0 x1 FU (x1 + (1 : Int32)) h).bind fun h11 =>
      l_X0_arrangeTriples_7 p0 fuel (x1 + 1) h11
    )
def f_X0_arrangeTriples (o : Nat) (h : Hp) : Option Hp :=
  (rc 0 h o).bind fun _ =>
  (sF 0 1 (.int (0 : Int32)) h o).bind fun h1 =>
  (l_X0_arrangeTriples_7 o FU (0 : Int32) h1).bind fun h12 =>
  some (h12)
set_option maxHeartbeats 2000000 in
set_option maxRecDepth 20000 in
theorem L_X0_arrangeTriples_31 {g : GT} {Γ : CT} {Q : State → Prop} {mc ms : Nat} (C : Cx g Γ cX0_arrangeTriples RX0 "arrangeTriples" 4 none 9 mc ms) {p0 : Nat} {p1 : Int32} {p2 : Int32} : ∀ {fuel : Nat} {x3 : Int32} {h : Hp} {hy : Hp}, l_X0_arrangeTriples_31 p0 p1 p2 fuel x3 h = some hy → U g Γ 4 Q 0 0 52 [(0, .ref p0), (1, .int p1), (2, .int p2)] [] hy → U g Γ 4 Q 0 0 31 [(0, .ref p0), (1, .int p1), (2, .int p2), (3, .int x3)] [] h := by
  intro fuel
  induction fuel with
  | zero =>
    intro x3 h hy hf J0
    simp only [l_X0_arrangeTriples_31, reduceCtorEq] at hf
  | succ fuel ih =>
    intro x3 h hy hf J0
    rw [l_X0_arrangeTriples_31] at hf
    refine U_iload_n (n := 32) 3 C dX0_arrangeTriples_31 rfl rfl ?_
    refine U_aload_n (n := 33) 0 C dX0_arrangeTriples_32 rfl rfl rfl ?_
    refine gf_RX0_9 (n := 36) C dX0_arrangeTriples_33 hf rfl (fun v6 hf => ?_)
    refine U_icge (tgt := 52) (n := 39) C dX0_arrangeTriples_36 (by decide) rfl (fun c7 => ?_) (fun c7 => ?_)
    · replace hf := (if_pos c7).symm.trans hf
      have hr := Option.some.inj hf
      subst hr
      exact U_lv [0, 1, 2] rfl J0
    · replace hf := (if_neg c7).symm.trans hf
      refine U_aload_n (n := 40) 0 C dX0_arrangeTriples_39 rfl rfl rfl ?_
      refine U_iload_n (n := 41) 1 C dX0_arrangeTriples_40 rfl rfl ?_
      refine U_iload_n (n := 42) 2 C dX0_arrangeTriples_41 rfl rfl ?_
      refine U_iload_n (n := 43) 3 C dX0_arrangeTriples_42 rfl rfl ?_
      obtain ⟨h9, ev8, hf⟩ := bsome hf
      refine cv_RX0_51 (n := 46) C dX0_arrangeTriples_43 (av := [.int p1, .int p2, .int x3]) rfl (rc_X0_addTriple ev8) (M_X0_addTriple ev8) (Nat.le_of_ble_eq_true rfl) (Nat.zero_le _) (Nat.zero_le _) (Nat.le_of_ble_eq_true rfl) rfl ?_
      refine U_iinc (n := 49) (v := (x3 + 1)) (lv2 := [(3, .int (x3 + 1)), (0, .ref p0), (1, .int p1), (2, .int p2)]) 3 C dX0_arrangeTriples_46 rfl rfl (by decide) rfl rfl ?_
      refine U_goto (n := 0) (tgt := 31) C dX0_arrangeTriples_49 (by decide) ?_
      exact U_lv [1, 2, 3, 0] rfl (ih hf J0)
set_option maxHeartbeats 2000000 in
set_option maxRecDepth 20000 in
theorem L_X0_arrangeTriples_19 {g : GT} {Γ : CT} {Q : State → Prop} {mc ms : Nat} (C : Cx g Γ cX0_arrangeTriples RX0 "arrangeTriples" 4 none 9 mc ms) {p0 : Nat} {p1 : Int32} : ∀ {fuel : Nat} {x2 : Int32} {h : Hp} {hy : Hp}, l_X0_arrangeTriples_19 p0 p1 fuel x2 h = some hy → U g Γ 4 Q 0 0 58 [(0, .ref p0), (1, .int p1)] [] hy → U g Γ 4 Q 0 0 19 [(0, .ref p0), (1, .int p1), (2, .int x2)] [] h := by
  intro fuel
  induction fuel with
  | zero =>
    intro x2 h hy hf J0
    simp only [l_X0_arrangeTriples_19, reduceCtorEq] at hf
  | succ fuel ih =>
    intro x2 h hy hf J0
    rw [l_X0_arrangeTriples_19] at hf
    refine U_iload_n (n := 20) 2 C dX0_arrangeTriples_19 rfl rfl ?_
    refine U_aload_n (n := 21) 0 C dX0_arrangeTriples_20 rfl rfl rfl ?_
    refine gf_RX0_9 (n := 24) C dX0_arrangeTriples_21 hf rfl (fun v4 hf => ?_)
    refine U_icge (tgt := 58) (n := 27) C dX0_arrangeTriples_24 (by decide) rfl (fun c5 => ?_) (fun c5 => ?_)
    · replace hf := (if_pos c5).symm.trans hf
      have hr := Option.some.inj hf
      subst hr
      exact U_lv [0, 1] rfl J0
    · replace hf := (if_neg c5).symm.trans hf
      refine U_iload_n (n := 28) 2 C dX0_arrangeTriples_27 rfl rfl ?_
      refine U_iconst (n := 29) (1 : Int32) C dX0_arrangeTriples_28 kiconst_1 rfl ?_
      refine U_iadd (n := 30) C dX0_arrangeTriples_29 rfl ?_
      refine U_istore_n (n := 31) (lv2 := [(3, .int (x2 + (1 : Int32))), (0, .ref p0), (1, .int p1), (2, .int x2)]) C dX0_arrangeTriples_30 (by decide) rfl rfl ?_
      refine U_join1 (fun h10 => U g Γ 4 Q 0 0 52 [(0, .ref p0), (1, .int p1), (2, .int x2)] [] h10) hf (fun h10 hf => ?_) (fun h10 hf J => U_lv [1, 2, 3, 0] rfl (L_X0_arrangeTriples_31 C hf J))
      refine U_iinc (n := 55) (v := (x2 + 1)) (lv2 := [(2, .int (x2 + 1)), (0, .ref p0), (1, .int p1)]) 2 C dX0_arrangeTriples_52 rfl rfl (by decide) rfl rfl ?_
      refine U_goto (n := 0) (tgt := 19) C dX0_arrangeTriples_55 (by decide) ?_
      exact U_lv [1, 2, 0] rfl (ih hf J0)
set_option maxHeartbeats 2000000 in
set_option maxRecDepth 20000 in
theorem L_X0_arrangeTriples_7 {g : GT} {Γ : CT} {Q : State → Prop} {mc ms : Nat} (C : Cx g Γ cX0_arrangeTriples RX0 "arrangeTriples" 4 none 9 mc ms) {p0 : Nat} : ∀ {fuel : Nat} {x1 : Int32} {h : Hp} {hy : Hp}, l_X0_arrangeTriples_7 p0 fuel x1 h = some hy → U g Γ 4 Q 0 0 64 [] [] hy → U g Γ 4 Q 0 0 7 [(0, .ref p0), (1, .int x1)] [] h := by
  intro fuel
  induction fuel with
  | zero =>
    intro x1 h hy hf J0
    simp only [l_X0_arrangeTriples_7, reduceCtorEq] at hf
  | succ fuel ih =>
    intro x1 h hy hf J0
    rw [l_X0_arrangeTriples_7] at hf
    refine U_iload_n (n := 8) 1 C dX0_arrangeTriples_7 rfl rfl ?_
    refine U_aload_n (n := 9) 0 C dX0_arrangeTriples_8 rfl rfl rfl ?_
    refine gf_RX0_9 (n := 12) C dX0_arrangeTriples_9 hf rfl (fun v2 hf => ?_)
    refine U_icge (tgt := 64) (n := 15) C dX0_arrangeTriples_12 (by decide) rfl (fun c3 => ?_) (fun c3 => ?_)
    · replace hf := (if_pos c3).symm.trans hf
      have hr := Option.some.inj hf
      subst hr
      exact U_lv [] rfl J0
    · replace hf := (if_neg c3).symm.trans hf
      refine U_iload_n (n := 16) 1 C dX0_arrangeTriples_15 rfl rfl ?_
      refine U_iconst (n := 17) (1 : Int32) C dX0_arrangeTriples_16 kiconst_1 rfl ?_
      refine U_iadd (n := 18) C dX0_arrangeTriples_17 rfl ?_
      refine U_istore_n (n := 19) (lv2 := [(2, .int (x1 + (1 : Int32))), (0, .ref p0), (1, .int x1)]) C dX0_arrangeTriples_18 (by decide) rfl rfl ?_
      refine U_join1 (fun h11 => U g Γ 4 Q 0 0 58 [(0, .ref p0), (1, .int x1)] [] h11) hf (fun h11 hf => ?_) (fun h11 hf J => U_lv [1, 2, 0] rfl (L_X0_arrangeTriples_19 C hf J))
      refine U_iinc (n := 61) (v := (x1 + 1)) (lv2 := [(1, .int (x1 + 1)), (0, .ref p0)]) 1 C dX0_arrangeTriples_58 rfl rfl (by decide) rfl rfl ?_
      refine U_goto (n := 0) (tgt := 7) C dX0_arrangeTriples_61 (by decide) ?_
      exact U_lv [1, 0] rfl (ih hf J0)
theorem rc_X0_arrangeTriples {o : Nat} {h : Hp} {z} (hf : f_X0_arrangeTriples o h = some z) : rc 0 h o = some () := by
  unfold f_X0_arrangeTriples at hf
  exact (bsome hf).choose_spec.1
set_option maxHeartbeats 2000000 in
set_option maxRecDepth 20000 in
theorem M_X0_arrangeTriples {g : GT} {o : Nat} {h : Hp} {h2 : Hp} (hf : f_X0_arrangeTriples o h = some h2) : CM g yX0_arrangeTriples cX0_arrangeTriples 4 none 9 0 0 [.ref o] h (.inr none) h2 := by
  refine CM_of rfl (fun _ => Nat.le_of_ble_eq_true rfl) (fun Γ C hn0 => ?_)
  have C : Cx g Γ cX0_arrangeTriples RX0 "arrangeTriples" 4 none 9 0 0 := C
  generalize hQ : Qe g Γ (.inr none) h2 0 0 = Q
  show U g Γ 4 Q 0 0 0 [(0, .ref o)] [] h
  unfold f_X0_arrangeTriples at hf
  replace hf := (bsome hf).choose_spec.2
  refine U_aload_n (n := 1) 0 C dX0_arrangeTriples_0 rfl rfl rfl ?_
  refine U_iconst (n := 2) (0 : Int32) C dX0_arrangeTriples_1 kiconst_0 rfl ?_
  refine pf_RX0_15 (n := 5) C dX0_arrangeTriples_2 hf rfl (fun h1 hf => ?_)
  refine U_iconst (n := 6) (0 : Int32) C dX0_arrangeTriples_5 kiconst_0 rfl ?_
  refine U_istore_n (n := 7) (lv2 := [(1, .int (0 : Int32)), (0, .ref o)]) C dX0_arrangeTriples_6 (by decide) rfl rfl ?_
  refine U_join1 (fun h12 => U g Γ 4 Q 0 0 64 [] [] h12) hf (fun h12 hf => ?_) (fun h12 hf J => U_lv [1, 0] rfl (L_X0_arrangeTriples_7 C hf J))
  have hr := (Option.some.inj hf)
  subst hr
  subst hQ
  exact U_vret C dX0_arrangeTriples_64 (Nat.le_refl 0) (Nat.le_refl 0)
def f_X0_setProduct (o : Nat) (a1 : Int32) (a2 : Int32) (a3 : Int32) (a4 : Int32) (h : Hp) : Option Hp :=
  (rc 0 h o).bind fun _ =>
  (fI 0 2 h o).bind fun v1 =>
  (fR 0 7 h o).bind fun v2 =>
  (fR 0 4 h o).bind fun v3 =>
  (aI h v3 a2).bind fun v4 =>
  (wI h v2 ((v1 * (6 : Int32)) + ((2 : Int32) * a1)) v4).bind fun h5 =>
  (fR 0 7 h5 o).bind fun v6 =>
  (fR 0 4 h5 o).bind fun v7 =>
  (aI h5 v7 a3).bind fun v8 =>
  (wI h5 v6 (((v1 * (6 : Int32)) + ((2 : Int32) * a1)) + (1 : Int32)) v8).bind fun h9 =>
  (fR 0 8 h9 o).bind fun v10 =>
  (fI 0 2 h9 o).bind fun v11 =>
  (fR 0 5 h9 o).bind fun v12 =>
  (aI h9 v12 a2).bind fun v13 =>
  (fR 0 5 h9 o).bind fun v14 =>
  (aI h9 v14 a3).bind fun v15 =>
  (wI h9 v10 ((v11 * (3 : Int32)) + a1) ((a4 * v13) * v15)).bind fun h16 =>
  (fR 0 9 h16 o).bind fun v17 =>
  (fI 0 2 h16 o).bind fun v18 =>
  (aJ h16 v17 v18).bind fun v19 =>
  (fR 0 4 h16 o).bind fun v20 =>
  (aI h16 v20 a2).bind fun v21 =>
  (fR 0 4 h16 o).bind fun v22 =>
  (aI h16 v22 a3).bind fun v23 =>
  (wJ h16 v17 v18 (v19 ||| (((1 : Int64) <<< ((v21).toInt64 &&& 63)) ||| ((1 : Int64) <<< ((v23).toInt64 &&& 63))))).bind fun h24 =>
  some (h24)
theorem rc_X0_setProduct {o : Nat} {a1 : Int32} {a2 : Int32} {a3 : Int32} {a4 : Int32} {h : Hp} {z} (hf : f_X0_setProduct o a1 a2 a3 a4 h = some z) : rc 0 h o = some () := by
  unfold f_X0_setProduct at hf
  exact (bsome hf).choose_spec.1
set_option maxHeartbeats 2000000 in
set_option maxRecDepth 20000 in
theorem M_X0_setProduct {g : GT} {o : Nat} {a1 : Int32} {a2 : Int32} {a3 : Int32} {a4 : Int32} {h : Hp} {h2 : Hp} (hf : f_X0_setProduct o a1 a2 a3 a4 h = some h2) : CM g yX0_setProduct cX0_setProduct 6 none 6 0 0 [.ref o, .int a1, .int a2, .int a3, .int a4] h (.inr none) h2 := by
  refine CM_of rfl (fun _ => Nat.le_of_ble_eq_true rfl) (fun Γ C hn0 => ?_)
  have C : Cx g Γ cX0_setProduct RX0 "setProduct" 6 none 6 0 0 := C
  generalize hQ : Qe g Γ (.inr none) h2 0 0 = Q
  show U g Γ 6 Q 0 0 0 [(0, .ref o), (1, .int a1), (2, .int a2), (3, .int a3), (4, .int a4)] [] h
  unfold f_X0_setProduct at hf
  replace hf := (bsome hf).choose_spec.2
  refine U_aload_n (n := 1) 0 C dX0_setProduct_0 rfl rfl rfl ?_
  refine gf_RX0_18 (n := 4) C dX0_setProduct_1 hf rfl (fun v1 hf => ?_)
  refine U_bipush (n := 6) (6 : Int32) C dX0_setProduct_4 kbipush_6 rfl ?_
  refine U_imul (n := 7) C dX0_setProduct_6 rfl ?_
  refine U_iconst (n := 8) (2 : Int32) C dX0_setProduct_7 kiconst_2 rfl ?_
  refine U_iload_n (n := 9) 1 C dX0_setProduct_8 rfl rfl ?_
  refine U_imul (n := 10) C dX0_setProduct_9 rfl ?_
  refine U_iadd (n := 11) C dX0_setProduct_10 rfl ?_
  refine U_istore (n := 13) (lv2 := [(5, .int ((v1 * (6 : Int32)) + ((2 : Int32) * a1))), (0, .ref o), (1, .int a1), (2, .int a2), (3, .int a3), (4, .int a4)]) C dX0_setProduct_11 (by decide) rfl rfl ?_
  refine U_aload_n (n := 14) 1 C dX0_setProduct_13 rfl rfl rfl ?_
  refine gf_RX0_34 (n := 17) C dX0_setProduct_14 hf rfl (fun v2 hf => ?_)
  refine U_iload (n := 19) 0 C dX0_setProduct_17 rfl rfl ?_
  refine U_aload_n (n := 20) 1 C dX0_setProduct_19 rfl rfl rfl ?_
  refine gf_RX0_25 (n := 23) C dX0_setProduct_20 hf rfl (fun v3 hf => ?_)
  refine U_iload_n (n := 24) 3 C dX0_setProduct_23 rfl rfl ?_
  refine U_iald (n := 25) C dX0_setProduct_24 hf rfl (fun v4 hf => ?_)
  refine U_iast (n := 26) C dX0_setProduct_25 hf rfl (fun h5 hf => ?_)
  refine U_aload_n (n := 27) 1 C dX0_setProduct_26 rfl rfl rfl ?_
  refine gf_RX0_34 (n := 30) C dX0_setProduct_27 hf rfl (fun v6 hf => ?_)
  refine U_iload (n := 32) 0 C dX0_setProduct_30 rfl rfl ?_
  refine U_iconst (n := 33) (1 : Int32) C dX0_setProduct_32 kiconst_1 rfl ?_
  refine U_iadd (n := 34) C dX0_setProduct_33 rfl ?_
  refine U_aload_n (n := 35) 1 C dX0_setProduct_34 rfl rfl rfl ?_
  refine gf_RX0_25 (n := 38) C dX0_setProduct_35 hf rfl (fun v7 hf => ?_)
  refine U_iload_n (n := 39) 4 C dX0_setProduct_38 rfl rfl ?_
  refine U_iald (n := 40) C dX0_setProduct_39 hf rfl (fun v8 hf => ?_)
  refine U_iast (n := 41) C dX0_setProduct_40 hf rfl (fun h9 hf => ?_)
  refine U_aload_n (n := 42) 1 C dX0_setProduct_41 rfl rfl rfl ?_
  refine gf_RX0_37 (n := 45) C dX0_setProduct_42 hf rfl (fun v10 hf => ?_)
  refine U_aload_n (n := 46) 1 C dX0_setProduct_45 rfl rfl rfl ?_
  refine gf_RX0_18 (n := 49) C dX0_setProduct_46 hf rfl (fun v11 hf => ?_)
  refine U_iconst (n := 50) (3 : Int32) C dX0_setProduct_49 kiconst_3 rfl ?_
  refine U_imul (n := 51) C dX0_setProduct_50 rfl ?_
  refine U_iload_n (n := 52) 2 C dX0_setProduct_51 rfl rfl ?_
  refine U_iadd (n := 53) C dX0_setProduct_52 rfl ?_
  refine U_iload (n := 55) 5 C dX0_setProduct_53 rfl rfl ?_
  refine U_aload_n (n := 56) 1 C dX0_setProduct_55 rfl rfl rfl ?_
  refine gf_RX0_28 (n := 59) C dX0_setProduct_56 hf rfl (fun v12 hf => ?_)
  refine U_iload_n (n := 60) 3 C dX0_setProduct_59 rfl rfl ?_
  refine U_iald (n := 61) C dX0_setProduct_60 hf rfl (fun v13 hf => ?_)
  refine U_imul (n := 62) C dX0_setProduct_61 rfl ?_
  refine U_aload_n (n := 63) 1 C dX0_setProduct_62 rfl rfl rfl ?_
  refine gf_RX0_28 (n := 66) C dX0_setProduct_63 hf rfl (fun v14 hf => ?_)
  refine U_iload_n (n := 67) 4 C dX0_setProduct_66 rfl rfl ?_
  refine U_iald (n := 68) C dX0_setProduct_67 hf rfl (fun v15 hf => ?_)
  refine U_imul (n := 69) C dX0_setProduct_68 rfl ?_
  refine U_iast (n := 70) C dX0_setProduct_69 hf rfl (fun h16 hf => ?_)
  refine U_aload_n (n := 71) 1 C dX0_setProduct_70 rfl rfl rfl ?_
  refine gf_RX0_40 (n := 74) C dX0_setProduct_71 hf rfl (fun v17 hf => ?_)
  refine U_aload_n (n := 75) 1 C dX0_setProduct_74 rfl rfl rfl ?_
  refine gf_RX0_18 (n := 78) C dX0_setProduct_75 hf rfl (fun v18 hf => ?_)
  refine U_dup2 (n := 79) C dX0_setProduct_78 rfl rfl rfl ?_
  refine U_lald (n := 80) C dX0_setProduct_79 hf rfl (fun v19 hf => ?_)
  refine U_lconst (n := 81) (1 : Int64) C dX0_setProduct_80 klconst_1 rfl ?_
  refine U_aload_n (n := 82) 1 C dX0_setProduct_81 rfl rfl rfl ?_
  refine gf_RX0_25 (n := 85) C dX0_setProduct_82 hf rfl (fun v20 hf => ?_)
  refine U_iload_n (n := 86) 3 C dX0_setProduct_85 rfl rfl ?_
  refine U_iald (n := 87) C dX0_setProduct_86 hf rfl (fun v21 hf => ?_)
  refine U_lshl (n := 88) C dX0_setProduct_87 rfl ?_
  refine U_lconst (n := 89) (1 : Int64) C dX0_setProduct_88 klconst_1 rfl ?_
  refine U_aload_n (n := 90) 1 C dX0_setProduct_89 rfl rfl rfl ?_
  refine gf_RX0_25 (n := 93) C dX0_setProduct_90 hf rfl (fun v22 hf => ?_)
  refine U_iload_n (n := 94) 4 C dX0_setProduct_93 rfl rfl ?_
  refine U_iald (n := 95) C dX0_setProduct_94 hf rfl (fun v23 hf => ?_)
  refine U_lshl (n := 96) C dX0_setProduct_95 rfl ?_
  refine U_lor (n := 97) C dX0_setProduct_96 rfl ?_
  refine U_lor (n := 98) C dX0_setProduct_97 rfl ?_
  refine U_last (n := 99) C dX0_setProduct_98 hf rfl (fun h24 hf => ?_)
  have hr := (Option.some.inj hf)
  subst hr
  subst hQ
  exact U_vret C dX0_setProduct_99 (Nat.le_refl 0) (Nat.le_refl 0)
def f_X0_addRelation (o : Nat) (a1 : Int32) (a2 : Int32) (a3 : Int32) (a4 : Int32) (a5 : Int32) (h : Hp) : Option Hp :=
  (rc 0 h o).bind fun _ =>
  (fI 0 2 h o).bind fun v1 =>
  (fR 0 6 h o).bind fun v2 =>
  (wI h v2 (v1 * (5 : Int32)) a1).bind fun h3 =>
  (fR 0 6 h3 o).bind fun v4 =>
  (wI h3 v4 ((v1 * (5 : Int32)) + (1 : Int32)) a2).bind fun h5 =>
  (fR 0 6 h5 o).bind fun v6 =>
  (wI h5 v6 ((v1 * (5 : Int32)) + (2 : Int32)) a3).bind fun h7 =>
  (fR 0 6 h7 o).bind fun v8 =>
  (wI h7 v8 ((v1 * (5 : Int32)) + (3 : Int32)) a4).bind fun h9 =>
  (fR 0 6 h9 o).bind fun v10 =>
  (wI h9 v10 ((v1 * (5 : Int32)) + (4 : Int32)) a5).bind fun h11 =>
  (fR 0 9 h11 o).bind fun v12 =>
  (fI 0 2 h11 o).bind fun v13 =>
  (wJ h11 v12 v13 (0 : Int64)).bind fun h14 =>
  (f_X0_spot a1 a2 a3).bind fun v15 =>
  (f_X0_spot a1 a4 a5).bind fun v16 =>
  (f_X0_setProduct o (0 : Int32) v15 v16 (1 : Int32) h14).bind fun h18 =>
  (f_X0_spot a1 a2 a4).bind fun v19 =>
  (f_X0_spot a1 a3 a5).bind fun v20 =>
  (f_X0_setProduct o (1 : Int32) v19 v20 (-1 : Int32) h18).bind fun h22 =>
  (f_X0_spot a1 a2 a5).bind fun v23 =>
  (f_X0_spot a1 a3 a4).bind fun v24 =>
  (f_X0_setProduct o (2 : Int32) v23 v24 (1 : Int32) h22).bind fun h26 =>
  (fI 0 2 h26 o).bind fun v27 =>
  (sF 0 2 (.int (v27 + (1 : Int32))) h26 o).bind fun h28 =>
  some (h28)
theorem rc_X0_addRelation {o : Nat} {a1 : Int32} {a2 : Int32} {a3 : Int32} {a4 : Int32} {a5 : Int32} {h : Hp} {z} (hf : f_X0_addRelation o a1 a2 a3 a4 a5 h = some z) : rc 0 h o = some () := by
  unfold f_X0_addRelation at hf
  exact (bsome hf).choose_spec.1
set_option maxHeartbeats 2000000 in
set_option maxRecDepth 20000 in
theorem M_X0_addRelation {g : GT} {o : Nat} {a1 : Int32} {a2 : Int32} {a3 : Int32} {a4 : Int32} {a5 : Int32} {h : Hp} {h2 : Hp} (hf : f_X0_addRelation o a1 a2 a3 a4 a5 h = some h2) : CM g yX0_addRelation cX0_addRelation 7 none 7 0 0 [.ref o, .int a1, .int a2, .int a3, .int a4, .int a5] h (.inr none) h2 := by
  refine CM_of rfl (fun _ => Nat.le_of_ble_eq_true rfl) (fun Γ C hn0 => ?_)
  have C : Cx g Γ cX0_addRelation RX0 "addRelation" 7 none 7 0 0 := C
  generalize hQ : Qe g Γ (.inr none) h2 0 0 = Q
  show U g Γ 7 Q 0 0 0 [(0, .ref o), (1, .int a1), (2, .int a2), (3, .int a3), (4, .int a4), (5, .int a5)] [] h
  unfold f_X0_addRelation at hf
  replace hf := (bsome hf).choose_spec.2
  refine U_aload_n (n := 1) 0 C dX0_addRelation_0 rfl rfl rfl ?_
  refine gf_RX0_18 (n := 4) C dX0_addRelation_1 hf rfl (fun v1 hf => ?_)
  refine U_iconst (n := 5) (5 : Int32) C dX0_addRelation_4 kiconst_5 rfl ?_
  refine U_imul (n := 6) C dX0_addRelation_5 rfl ?_
  refine U_istore (n := 8) (lv2 := [(6, .int (v1 * (5 : Int32))), (0, .ref o), (1, .int a1), (2, .int a2), (3, .int a3), (4, .int a4), (5, .int a5)]) C dX0_addRelation_6 (by decide) rfl rfl ?_
  refine U_aload_n (n := 9) 1 C dX0_addRelation_8 rfl rfl rfl ?_
  refine gf_RX0_31 (n := 12) C dX0_addRelation_9 hf rfl (fun v2 hf => ?_)
  refine U_iload (n := 14) 0 C dX0_addRelation_12 rfl rfl ?_
  refine U_iload_n (n := 15) 2 C dX0_addRelation_14 rfl rfl ?_
  refine U_iast (n := 16) C dX0_addRelation_15 hf rfl (fun h3 hf => ?_)
  refine U_aload_n (n := 17) 1 C dX0_addRelation_16 rfl rfl rfl ?_
  refine gf_RX0_31 (n := 20) C dX0_addRelation_17 hf rfl (fun v4 hf => ?_)
  refine U_iload (n := 22) 0 C dX0_addRelation_20 rfl rfl ?_
  refine U_iconst (n := 23) (1 : Int32) C dX0_addRelation_22 kiconst_1 rfl ?_
  refine U_iadd (n := 24) C dX0_addRelation_23 rfl ?_
  refine U_iload_n (n := 25) 3 C dX0_addRelation_24 rfl rfl ?_
  refine U_iast (n := 26) C dX0_addRelation_25 hf rfl (fun h5 hf => ?_)
  refine U_aload_n (n := 27) 1 C dX0_addRelation_26 rfl rfl rfl ?_
  refine gf_RX0_31 (n := 30) C dX0_addRelation_27 hf rfl (fun v6 hf => ?_)
  refine U_iload (n := 32) 0 C dX0_addRelation_30 rfl rfl ?_
  refine U_iconst (n := 33) (2 : Int32) C dX0_addRelation_32 kiconst_2 rfl ?_
  refine U_iadd (n := 34) C dX0_addRelation_33 rfl ?_
  refine U_iload_n (n := 35) 4 C dX0_addRelation_34 rfl rfl ?_
  refine U_iast (n := 36) C dX0_addRelation_35 hf rfl (fun h7 hf => ?_)
  refine U_aload_n (n := 37) 1 C dX0_addRelation_36 rfl rfl rfl ?_
  refine gf_RX0_31 (n := 40) C dX0_addRelation_37 hf rfl (fun v8 hf => ?_)
  refine U_iload (n := 42) 0 C dX0_addRelation_40 rfl rfl ?_
  refine U_iconst (n := 43) (3 : Int32) C dX0_addRelation_42 kiconst_3 rfl ?_
  refine U_iadd (n := 44) C dX0_addRelation_43 rfl ?_
  refine U_iload (n := 46) 5 C dX0_addRelation_44 rfl rfl ?_
  refine U_iast (n := 47) C dX0_addRelation_46 hf rfl (fun h9 hf => ?_)
  refine U_aload_n (n := 48) 1 C dX0_addRelation_47 rfl rfl rfl ?_
  refine gf_RX0_31 (n := 51) C dX0_addRelation_48 hf rfl (fun v10 hf => ?_)
  refine U_iload (n := 53) 0 C dX0_addRelation_51 rfl rfl ?_
  refine U_iconst (n := 54) (4 : Int32) C dX0_addRelation_53 kiconst_4 rfl ?_
  refine U_iadd (n := 55) C dX0_addRelation_54 rfl ?_
  refine U_iload (n := 57) 6 C dX0_addRelation_55 rfl rfl ?_
  refine U_iast (n := 58) C dX0_addRelation_57 hf rfl (fun h11 hf => ?_)
  refine U_aload_n (n := 59) 1 C dX0_addRelation_58 rfl rfl rfl ?_
  refine gf_RX0_40 (n := 62) C dX0_addRelation_59 hf rfl (fun v12 hf => ?_)
  refine U_aload_n (n := 63) 1 C dX0_addRelation_62 rfl rfl rfl ?_
  refine gf_RX0_18 (n := 66) C dX0_addRelation_63 hf rfl (fun v13 hf => ?_)
  refine U_lconst (n := 67) (0 : Int64) C dX0_addRelation_66 klconst_0 rfl ?_
  refine U_last (n := 68) C dX0_addRelation_67 hf rfl (fun h14 hf => ?_)
  refine U_aload_n (n := 69) 1 C dX0_addRelation_68 rfl rfl rfl ?_
  refine U_iconst (n := 70) (0 : Int32) C dX0_addRelation_69 kiconst_0 rfl ?_
  refine U_iload_n (n := 71) 2 C dX0_addRelation_70 rfl rfl ?_
  refine U_iload_n (n := 72) 3 C dX0_addRelation_71 rfl rfl ?_
  refine U_iload_n (n := 73) 4 C dX0_addRelation_72 rfl rfl ?_
  obtain ⟨v15, ev15, hf⟩ := bsome hf
  refine cv_RX0_59 (n := 76) C dX0_addRelation_73 (av := [.int a1, .int a2, .int a3]) rfl (M_X0_spot ev15) (Nat.le_of_ble_eq_true rfl) (Nat.zero_le _) (Nat.zero_le _) (Nat.le_of_ble_eq_true rfl) rfl ?_
  refine U_iload_n (n := 77) 2 C dX0_addRelation_76 rfl rfl ?_
  refine U_iload (n := 79) 5 C dX0_addRelation_77 rfl rfl ?_
  refine U_iload (n := 81) 6 C dX0_addRelation_79 rfl rfl ?_
  obtain ⟨v16, ev16, hf⟩ := bsome hf
  refine cv_RX0_59 (n := 84) C dX0_addRelation_81 (av := [.int a1, .int a4, .int a5]) rfl (M_X0_spot ev16) (Nat.le_of_ble_eq_true rfl) (Nat.zero_le _) (Nat.zero_le _) (Nat.le_of_ble_eq_true rfl) rfl ?_
  refine U_iconst (n := 85) (1 : Int32) C dX0_addRelation_84 kiconst_1 rfl ?_
  obtain ⟨h18, ev17, hf⟩ := bsome hf
  refine cv_RX0_67 (n := 88) C dX0_addRelation_85 (av := [.int (0 : Int32), .int v15, .int v16, .int (1 : Int32)]) rfl (rc_X0_setProduct ev17) (M_X0_setProduct ev17) (Nat.le_of_ble_eq_true rfl) (Nat.zero_le _) (Nat.zero_le _) (Nat.le_of_ble_eq_true rfl) rfl ?_
  refine U_aload_n (n := 89) 1 C dX0_addRelation_88 rfl rfl rfl ?_
  refine U_iconst (n := 90) (1 : Int32) C dX0_addRelation_89 kiconst_1 rfl ?_
  refine U_iload_n (n := 91) 2 C dX0_addRelation_90 rfl rfl ?_
  refine U_iload_n (n := 92) 3 C dX0_addRelation_91 rfl rfl ?_
  refine U_iload (n := 94) 5 C dX0_addRelation_92 rfl rfl ?_
  obtain ⟨v19, ev19, hf⟩ := bsome hf
  refine cv_RX0_59 (n := 97) C dX0_addRelation_94 (av := [.int a1, .int a2, .int a4]) rfl (M_X0_spot ev19) (Nat.le_of_ble_eq_true rfl) (Nat.zero_le _) (Nat.zero_le _) (Nat.le_of_ble_eq_true rfl) rfl ?_
  refine U_iload_n (n := 98) 2 C dX0_addRelation_97 rfl rfl ?_
  refine U_iload_n (n := 99) 4 C dX0_addRelation_98 rfl rfl ?_
  refine U_iload (n := 101) 6 C dX0_addRelation_99 rfl rfl ?_
  obtain ⟨v20, ev20, hf⟩ := bsome hf
  refine cv_RX0_59 (n := 104) C dX0_addRelation_101 (av := [.int a1, .int a3, .int a5]) rfl (M_X0_spot ev20) (Nat.le_of_ble_eq_true rfl) (Nat.zero_le _) (Nat.zero_le _) (Nat.le_of_ble_eq_true rfl) rfl ?_
  refine U_iconst (n := 105) (-1 : Int32) C dX0_addRelation_104 kiconst_m1 rfl ?_
  obtain ⟨h22, ev21, hf⟩ := bsome hf
  refine cv_RX0_67 (n := 108) C dX0_addRelation_105 (av := [.int (1 : Int32), .int v19, .int v20, .int (-1 : Int32)]) rfl (rc_X0_setProduct ev21) (M_X0_setProduct ev21) (Nat.le_of_ble_eq_true rfl) (Nat.zero_le _) (Nat.zero_le _) (Nat.le_of_ble_eq_true rfl) rfl ?_
  refine U_aload_n (n := 109) 1 C dX0_addRelation_108 rfl rfl rfl ?_
  refine U_iconst (n := 110) (2 : Int32) C dX0_addRelation_109 kiconst_2 rfl ?_
  refine U_iload_n (n := 111) 2 C dX0_addRelation_110 rfl rfl ?_
  refine U_iload_n (n := 112) 3 C dX0_addRelation_111 rfl rfl ?_
  refine U_iload (n := 114) 6 C dX0_addRelation_112 rfl rfl ?_
  obtain ⟨v23, ev23, hf⟩ := bsome hf
  refine cv_RX0_59 (n := 117) C dX0_addRelation_114 (av := [.int a1, .int a2, .int a5]) rfl (M_X0_spot ev23) (Nat.le_of_ble_eq_true rfl) (Nat.zero_le _) (Nat.zero_le _) (Nat.le_of_ble_eq_true rfl) rfl ?_
  refine U_iload_n (n := 118) 2 C dX0_addRelation_117 rfl rfl ?_
  refine U_iload_n (n := 119) 4 C dX0_addRelation_118 rfl rfl ?_
  refine U_iload (n := 121) 5 C dX0_addRelation_119 rfl rfl ?_
  obtain ⟨v24, ev24, hf⟩ := bsome hf
  refine cv_RX0_59 (n := 124) C dX0_addRelation_121 (av := [.int a1, .int a3, .int a4]) rfl (M_X0_spot ev24) (Nat.le_of_ble_eq_true rfl) (Nat.zero_le _) (Nat.zero_le _) (Nat.le_of_ble_eq_true rfl) rfl ?_
  refine U_iconst (n := 125) (1 : Int32) C dX0_addRelation_124 kiconst_1 rfl ?_
  obtain ⟨h26, ev25, hf⟩ := bsome hf
  refine cv_RX0_67 (n := 128) C dX0_addRelation_125 (av := [.int (2 : Int32), .int v23, .int v24, .int (1 : Int32)]) rfl (rc_X0_setProduct ev25) (M_X0_setProduct ev25) (Nat.le_of_ble_eq_true rfl) (Nat.zero_le _) (Nat.zero_le _) (Nat.le_of_ble_eq_true rfl) rfl ?_
  refine U_aload_n (n := 129) 1 C dX0_addRelation_128 rfl rfl rfl ?_
  refine U_dup (n := 130) C dX0_addRelation_129 rfl rfl ?_
  refine gf_RX0_18 (n := 133) C dX0_addRelation_130 hf rfl (fun v27 hf => ?_)
  refine U_iconst (n := 134) (1 : Int32) C dX0_addRelation_133 kiconst_1 rfl ?_
  refine U_iadd (n := 135) C dX0_addRelation_134 rfl ?_
  refine pf_RX0_18 (n := 138) C dX0_addRelation_135 hf rfl (fun h28 hf => ?_)
  have hr := (Option.some.inj hf)
  subst hr
  subst hQ
  exact U_vret C dX0_addRelation_138 (Nat.le_refl 0) (Nat.le_refl 0)
def l_X0_arrangeRelations_42 (p0 : Nat) (p1 : Int32) (p2 : Int32) (p3 : Int32) (p4 : Int32) : Nat → Int32 → Hp → Option Hp
  | 0, _, _ => none
  | fuel + 1, x5, h =>
    (fI 0 0 h p0).bind fun v7 =>
    if v7 ≤ x5 then (
      some h
    ) else (
      (
        if p2 = p1 then (
          some h
        ) else (
          if p3 = p1 then (
            some h
          ) else (
            if p4 = p1 then (
              some h
            ) else (
              if x5 = p1 then (
                some h
              ) else (
                (f_X0_addRelation p0 p1 p2 p3 p4 x5 h).bind fun h18 =>
                some h18
              )
            )
          )
        )
      ).bind fun h10 =>
      l_X0_arrangeRelations_42 p0 p1 p2 p3 p4 fuel (x5 + 1) h10
    )
def l_X0_arrangeRelations_27 (p0 : Nat) (p1 : Int32) (p2 : Int32) (p3 : Int32) : Nat → Int32 → Hp → Option Hp
  | 0, _, _ => none
  | fuel + 1, x4, h =>
    (fI 0 0 h p0).bind fun v5 =>
    if v5 ≤ x4 then (
      some h
    ) else (
      (l_X0_arrangeRelations_42 p0 p1 p2 p3 x4 FU (x4 + (1 : Int32)) h).bind fun h19 =>
      l_X0_arrangeRelations_27 p0 p1 p2 p3 fuel (x4 + 1) h19
    )
def l_X0_arrangeRelations_14 (p0 : Nat) (p1 : Int32) (p2 : Int32) : Nat → Int32 → Hp → Option Hp
  | 0, _, _ => none
  | fuel + 1, x3, h =>
    (fI 0 0 h p0).bind fun v3 =>
    if v3 ≤ x3 then (
      some h
    ) else (
      (l_X0_arrangeRelations_27 p0 p1 p2 x3 FU (x3 + (1 : Int32)) h).bind fun h20 =>
      l_X0_arrangeRelations_14 p0 p1 p2 fuel (x3 + 1) h20
    )
def l_X0_arrangeRelations_2 (p0 : Nat) (p1 : Int32) : Nat → Int32 → Hp → Option Hp
  | 0, _, _ => none
  | fuel + 1, x2, h =>
    (fI 0 0 h p0).bind fun v1 =>
    if v1 ≤ x2 then (
      some h
    ) else (
      (l_X0_arrangeRelations_14 p0 p1 x2 FU (x2 + (1 : Int32)) h).bind fun h21 =>
      l_X0_arrangeRelations_2 p0 p1 fuel (x2 + 1) h21
    )
def f_X0_arrangeRelations (o : Nat) (a1 : Int32) (h : Hp) : Option Hp :=
  (rc 0 h o).bind fun _ =>
  (l_X0_arrangeRelations_2 o a1 FU (0 : Int32) h).bind fun h22 =>
  some (h22)
set_option maxHeartbeats 2000000 in
set_option maxRecDepth 20000 in
theorem L_X0_arrangeRelations_42 {g : GT} {Γ : CT} {Q : State → Prop} {mc ms : Nat} (C : Cx g Γ cX0_arrangeRelations RX0 "arrangeRelations" 6 none 8 mc ms) {p0 : Nat} {p1 : Int32} {p2 : Int32} {p3 : Int32} {p4 : Int32} : ∀ {fuel : Nat} {x5 : Int32} {h : Hp} {hy : Hp}, l_X0_arrangeRelations_42 p0 p1 p2 p3 p4 fuel x5 h = some hy → U g Γ 6 Q 0 0 90 [(0, .ref p0), (1, .int p1), (2, .int p2), (3, .int p3), (4, .int p4)] [] hy → U g Γ 6 Q 0 0 42 [(0, .ref p0), (1, .int p1), (2, .int p2), (3, .int p3), (4, .int p4), (5, .int x5)] [] h := by
  intro fuel
  induction fuel with
  | zero =>
    intro x5 h hy hf J0
    simp only [l_X0_arrangeRelations_42, reduceCtorEq] at hf
  | succ fuel ih =>
    intro x5 h hy hf J0
    rw [l_X0_arrangeRelations_42] at hf
    refine U_iload (n := 44) 5 C dX0_arrangeRelations_42 rfl rfl ?_
    refine U_aload_n (n := 45) 0 C dX0_arrangeRelations_44 rfl rfl rfl ?_
    refine gf_RX0_9 (n := 48) C dX0_arrangeRelations_45 hf rfl (fun v7 hf => ?_)
    refine U_icge (tgt := 90) (n := 51) C dX0_arrangeRelations_48 (by decide) rfl (fun c8 => ?_) (fun c8 => ?_)
    · replace hf := (if_pos c8).symm.trans hf
      have hr := Option.some.inj hf
      subst hr
      exact U_lv [0, 1, 2, 3, 4] rfl J0
    · replace hf := (if_neg c8).symm.trans hf
      refine U_iload_n (n := 52) 2 C dX0_arrangeRelations_51 rfl rfl ?_
      refine U_iload_n (n := 53) 1 C dX0_arrangeRelations_52 rfl rfl ?_
      refine U_join1 (fun h10 => U g Γ 6 Q 0 0 84 [(0, .ref p0), (1, .int p1), (2, .int p2), (3, .int p3), (4, .int p4), (5, .int x5)] [] h10) hf (fun h10 hf => ?_) (fun h10 hf J12 => ?_)
      · skip
        refine U_iinc (n := 87) (v := (x5 + 1)) (lv2 := [(5, .int (x5 + 1)), (0, .ref p0), (1, .int p1), (2, .int p2), (3, .int p3), (4, .int p4)]) 5 C dX0_arrangeRelations_84 rfl rfl (by decide) rfl rfl ?_
        refine U_goto (n := 0) (tgt := 42) C dX0_arrangeRelations_87 (by decide) ?_
        exact U_lv [1, 2, 3, 4, 5, 0] rfl (ih hf J0)
      · skip
        refine U_iceq (tgt := 84) (n := 56) C dX0_arrangeRelations_53 (by decide) rfl (fun c9 => ?_) (fun c9 => ?_)
        · replace hf := (if_pos c9).symm.trans hf
          have hr := Option.some.inj hf
          subst hr
          exact U_lv [0, 1, 2, 3, 4, 5] rfl J12
        · replace hf := (if_neg c9).symm.trans hf
          refine U_iload_n (n := 57) 3 C dX0_arrangeRelations_56 rfl rfl ?_
          refine U_iload_n (n := 58) 1 C dX0_arrangeRelations_57 rfl rfl ?_
          refine U_iceq (tgt := 84) (n := 61) C dX0_arrangeRelations_58 (by decide) rfl (fun c14 => ?_) (fun c14 => ?_)
          · replace hf := (if_pos c14).symm.trans hf
            have hr := Option.some.inj hf
            subst hr
            exact U_lv [0, 1, 2, 3, 4, 5] rfl J12
          · replace hf := (if_neg c14).symm.trans hf
            refine U_iload (n := 63) 4 C dX0_arrangeRelations_61 rfl rfl ?_
            refine U_iload_n (n := 64) 1 C dX0_arrangeRelations_63 rfl rfl ?_
            refine U_iceq (tgt := 84) (n := 67) C dX0_arrangeRelations_64 (by decide) rfl (fun c15 => ?_) (fun c15 => ?_)
            · replace hf := (if_pos c15).symm.trans hf
              have hr := Option.some.inj hf
              subst hr
              exact U_lv [0, 1, 2, 3, 4, 5] rfl J12
            · replace hf := (if_neg c15).symm.trans hf
              refine U_iload (n := 69) 5 C dX0_arrangeRelations_67 rfl rfl ?_
              refine U_iload_n (n := 70) 1 C dX0_arrangeRelations_69 rfl rfl ?_
              refine U_iceq (tgt := 84) (n := 73) C dX0_arrangeRelations_70 (by decide) rfl (fun c16 => ?_) (fun c16 => ?_)
              · replace hf := (if_pos c16).symm.trans hf
                have hr := Option.some.inj hf
                subst hr
                exact U_lv [0, 1, 2, 3, 4, 5] rfl J12
              · replace hf := (if_neg c16).symm.trans hf
                refine U_aload_n (n := 74) 0 C dX0_arrangeRelations_73 rfl rfl rfl ?_
                refine U_iload_n (n := 75) 1 C dX0_arrangeRelations_74 rfl rfl ?_
                refine U_iload_n (n := 76) 2 C dX0_arrangeRelations_75 rfl rfl ?_
                refine U_iload_n (n := 77) 3 C dX0_arrangeRelations_76 rfl rfl ?_
                refine U_iload (n := 79) 4 C dX0_arrangeRelations_77 rfl rfl ?_
                refine U_iload (n := 81) 5 C dX0_arrangeRelations_79 rfl rfl ?_
                obtain ⟨h18, ev17, hf⟩ := bsome hf
                refine cv_RX0_63 (n := 84) C dX0_arrangeRelations_81 (av := [.int p1, .int p2, .int p3, .int p4, .int x5]) rfl (rc_X0_addRelation ev17) (M_X0_addRelation ev17) (Nat.le_of_ble_eq_true rfl) (Nat.zero_le _) (Nat.zero_le _) (Nat.le_of_ble_eq_true rfl) rfl ?_
                have hr := Option.some.inj hf
                subst hr
                exact U_lv [0, 1, 2, 3, 4, 5] rfl J12
set_option maxHeartbeats 2000000 in
set_option maxRecDepth 20000 in
theorem L_X0_arrangeRelations_27 {g : GT} {Γ : CT} {Q : State → Prop} {mc ms : Nat} (C : Cx g Γ cX0_arrangeRelations RX0 "arrangeRelations" 6 none 8 mc ms) {p0 : Nat} {p1 : Int32} {p2 : Int32} {p3 : Int32} : ∀ {fuel : Nat} {x4 : Int32} {h : Hp} {hy : Hp}, l_X0_arrangeRelations_27 p0 p1 p2 p3 fuel x4 h = some hy → U g Γ 6 Q 0 0 96 [(0, .ref p0), (1, .int p1), (2, .int p2), (3, .int p3)] [] hy → U g Γ 6 Q 0 0 27 [(0, .ref p0), (1, .int p1), (2, .int p2), (3, .int p3), (4, .int x4)] [] h := by
  intro fuel
  induction fuel with
  | zero =>
    intro x4 h hy hf J0
    simp only [l_X0_arrangeRelations_27, reduceCtorEq] at hf
  | succ fuel ih =>
    intro x4 h hy hf J0
    rw [l_X0_arrangeRelations_27] at hf
    refine U_iload (n := 29) 4 C dX0_arrangeRelations_27 rfl rfl ?_
    refine U_aload_n (n := 30) 0 C dX0_arrangeRelations_29 rfl rfl rfl ?_
    refine gf_RX0_9 (n := 33) C dX0_arrangeRelations_30 hf rfl (fun v5 hf => ?_)
    refine U_icge (tgt := 96) (n := 36) C dX0_arrangeRelations_33 (by decide) rfl (fun c6 => ?_) (fun c6 => ?_)
    · replace hf := (if_pos c6).symm.trans hf
      have hr := Option.some.inj hf
      subst hr
      exact U_lv [0, 1, 2, 3] rfl J0
    · replace hf := (if_neg c6).symm.trans hf
      refine U_iload (n := 38) 4 C dX0_arrangeRelations_36 rfl rfl ?_
      refine U_iconst (n := 39) (1 : Int32) C dX0_arrangeRelations_38 kiconst_1 rfl ?_
      refine U_iadd (n := 40) C dX0_arrangeRelations_39 rfl ?_
      refine U_istore (n := 42) (lv2 := [(5, .int (x4 + (1 : Int32))), (0, .ref p0), (1, .int p1), (2, .int p2), (3, .int p3), (4, .int x4)]) C dX0_arrangeRelations_40 (by decide) rfl rfl ?_
      refine U_join1 (fun h19 => U g Γ 6 Q 0 0 90 [(0, .ref p0), (1, .int p1), (2, .int p2), (3, .int p3), (4, .int x4)] [] h19) hf (fun h19 hf => ?_) (fun h19 hf J => U_lv [1, 2, 3, 4, 5, 0] rfl (L_X0_arrangeRelations_42 C hf J))
      refine U_iinc (n := 93) (v := (x4 + 1)) (lv2 := [(4, .int (x4 + 1)), (0, .ref p0), (1, .int p1), (2, .int p2), (3, .int p3)]) 4 C dX0_arrangeRelations_90 rfl rfl (by decide) rfl rfl ?_
      refine U_goto (n := 0) (tgt := 27) C dX0_arrangeRelations_93 (by decide) ?_
      exact U_lv [1, 2, 3, 4, 0] rfl (ih hf J0)
set_option maxHeartbeats 2000000 in
set_option maxRecDepth 20000 in
theorem L_X0_arrangeRelations_14 {g : GT} {Γ : CT} {Q : State → Prop} {mc ms : Nat} (C : Cx g Γ cX0_arrangeRelations RX0 "arrangeRelations" 6 none 8 mc ms) {p0 : Nat} {p1 : Int32} {p2 : Int32} : ∀ {fuel : Nat} {x3 : Int32} {h : Hp} {hy : Hp}, l_X0_arrangeRelations_14 p0 p1 p2 fuel x3 h = some hy → U g Γ 6 Q 0 0 102 [(0, .ref p0), (1, .int p1), (2, .int p2)] [] hy → U g Γ 6 Q 0 0 14 [(0, .ref p0), (1, .int p1), (2, .int p2), (3, .int x3)] [] h := by
  intro fuel
  induction fuel with
  | zero =>
    intro x3 h hy hf J0
    simp only [l_X0_arrangeRelations_14, reduceCtorEq] at hf
  | succ fuel ih =>
    intro x3 h hy hf J0
    rw [l_X0_arrangeRelations_14] at hf
    refine U_iload_n (n := 15) 3 C dX0_arrangeRelations_14 rfl rfl ?_
    refine U_aload_n (n := 16) 0 C dX0_arrangeRelations_15 rfl rfl rfl ?_
    refine gf_RX0_9 (n := 19) C dX0_arrangeRelations_16 hf rfl (fun v3 hf => ?_)
    refine U_icge (tgt := 102) (n := 22) C dX0_arrangeRelations_19 (by decide) rfl (fun c4 => ?_) (fun c4 => ?_)
    · replace hf := (if_pos c4).symm.trans hf
      have hr := Option.some.inj hf
      subst hr
      exact U_lv [0, 1, 2] rfl J0
    · replace hf := (if_neg c4).symm.trans hf
      refine U_iload_n (n := 23) 3 C dX0_arrangeRelations_22 rfl rfl ?_
      refine U_iconst (n := 24) (1 : Int32) C dX0_arrangeRelations_23 kiconst_1 rfl ?_
      refine U_iadd (n := 25) C dX0_arrangeRelations_24 rfl ?_
      refine U_istore (n := 27) (lv2 := [(4, .int (x3 + (1 : Int32))), (0, .ref p0), (1, .int p1), (2, .int p2), (3, .int x3)]) C dX0_arrangeRelations_25 (by decide) rfl rfl ?_
      refine U_join1 (fun h20 => U g Γ 6 Q 0 0 96 [(0, .ref p0), (1, .int p1), (2, .int p2), (3, .int x3)] [] h20) hf (fun h20 hf => ?_) (fun h20 hf J => U_lv [1, 2, 3, 4, 0] rfl (L_X0_arrangeRelations_27 C hf J))
      refine U_iinc (n := 99) (v := (x3 + 1)) (lv2 := [(3, .int (x3 + 1)), (0, .ref p0), (1, .int p1), (2, .int p2)]) 3 C dX0_arrangeRelations_96 rfl rfl (by decide) rfl rfl ?_
      refine U_goto (n := 0) (tgt := 14) C dX0_arrangeRelations_99 (by decide) ?_
      exact U_lv [1, 2, 3, 0] rfl (ih hf J0)
set_option maxHeartbeats 2000000 in
set_option maxRecDepth 20000 in
theorem L_X0_arrangeRelations_2 {g : GT} {Γ : CT} {Q : State → Prop} {mc ms : Nat} (C : Cx g Γ cX0_arrangeRelations RX0 "arrangeRelations" 6 none 8 mc ms) {p0 : Nat} {p1 : Int32} : ∀ {fuel : Nat} {x2 : Int32} {h : Hp} {hy : Hp}, l_X0_arrangeRelations_2 p0 p1 fuel x2 h = some hy → U g Γ 6 Q 0 0 108 [] [] hy → U g Γ 6 Q 0 0 2 [(0, .ref p0), (1, .int p1), (2, .int x2)] [] h := by
  intro fuel
  induction fuel with
  | zero =>
    intro x2 h hy hf J0
    simp only [l_X0_arrangeRelations_2, reduceCtorEq] at hf
  | succ fuel ih =>
    intro x2 h hy hf J0
    rw [l_X0_arrangeRelations_2] at hf
    refine U_iload_n (n := 3) 2 C dX0_arrangeRelations_2 rfl rfl ?_
    refine U_aload_n (n := 4) 0 C dX0_arrangeRelations_3 rfl rfl rfl ?_
    refine gf_RX0_9 (n := 7) C dX0_arrangeRelations_4 hf rfl (fun v1 hf => ?_)
    refine U_icge (tgt := 108) (n := 10) C dX0_arrangeRelations_7 (by decide) rfl (fun c2 => ?_) (fun c2 => ?_)
    · replace hf := (if_pos c2).symm.trans hf
      have hr := Option.some.inj hf
      subst hr
      exact U_lv [] rfl J0
    · replace hf := (if_neg c2).symm.trans hf
      refine U_iload_n (n := 11) 2 C dX0_arrangeRelations_10 rfl rfl ?_
      refine U_iconst (n := 12) (1 : Int32) C dX0_arrangeRelations_11 kiconst_1 rfl ?_
      refine U_iadd (n := 13) C dX0_arrangeRelations_12 rfl ?_
      refine U_istore_n (n := 14) (lv2 := [(3, .int (x2 + (1 : Int32))), (0, .ref p0), (1, .int p1), (2, .int x2)]) C dX0_arrangeRelations_13 (by decide) rfl rfl ?_
      refine U_join1 (fun h21 => U g Γ 6 Q 0 0 102 [(0, .ref p0), (1, .int p1), (2, .int x2)] [] h21) hf (fun h21 hf => ?_) (fun h21 hf J => U_lv [1, 2, 3, 0] rfl (L_X0_arrangeRelations_14 C hf J))
      refine U_iinc (n := 105) (v := (x2 + 1)) (lv2 := [(2, .int (x2 + 1)), (0, .ref p0), (1, .int p1)]) 2 C dX0_arrangeRelations_102 rfl rfl (by decide) rfl rfl ?_
      refine U_goto (n := 0) (tgt := 2) C dX0_arrangeRelations_105 (by decide) ?_
      exact U_lv [1, 2, 0] rfl (ih hf J0)
theorem rc_X0_arrangeRelations {o : Nat} {a1 : Int32} {h : Hp} {z} (hf : f_X0_arrangeRelations o a1 h = some z) : rc 0 h o = some () := by
  unfold f_X0_arrangeRelations at hf
  exact (bsome hf).choose_spec.1
set_option maxHeartbeats 2000000 in
set_option maxRecDepth 20000 in
theorem M_X0_arrangeRelations {g : GT} {o : Nat} {a1 : Int32} {h : Hp} {h2 : Hp} (hf : f_X0_arrangeRelations o a1 h = some h2) : CM g yX0_arrangeRelations cX0_arrangeRelations 6 none 8 0 0 [.ref o, .int a1] h (.inr none) h2 := by
  refine CM_of rfl (fun _ => Nat.le_of_ble_eq_true rfl) (fun Γ C hn0 => ?_)
  have C : Cx g Γ cX0_arrangeRelations RX0 "arrangeRelations" 6 none 8 0 0 := C
  generalize hQ : Qe g Γ (.inr none) h2 0 0 = Q
  show U g Γ 6 Q 0 0 0 [(0, .ref o), (1, .int a1)] [] h
  unfold f_X0_arrangeRelations at hf
  replace hf := (bsome hf).choose_spec.2
  refine U_iconst (n := 1) (0 : Int32) C dX0_arrangeRelations_0 kiconst_0 rfl ?_
  refine U_istore_n (n := 2) (lv2 := [(2, .int (0 : Int32)), (0, .ref o), (1, .int a1)]) C dX0_arrangeRelations_1 (by decide) rfl rfl ?_
  refine U_join1 (fun h22 => U g Γ 6 Q 0 0 108 [] [] h22) hf (fun h22 hf => ?_) (fun h22 hf J => U_lv [1, 2, 0] rfl (L_X0_arrangeRelations_2 C hf J))
  have hr := (Option.some.inj hf)
  subst hr
  subst hQ
  exact U_vret C dX0_arrangeRelations_108 (Nat.le_refl 0) (Nat.le_refl 0)
def l_X0_arrange_16 (p0 : Nat) : Nat → Int32 → Hp → Option Hp
  | 0, _, _ => none
  | fuel + 1, x2, h =>
    (fI 0 0 h p0).bind fun v5 =>
    if v5 ≤ x2 then (
      some h
    ) else (
      (f_X0_arrangeRelations p0 x2 h).bind fun h8 =>
      l_X0_arrange_16 p0 fuel (x2 + 1) h8
    )
def f_X0_arrange (o : Nat) (a1 : Int32) (h : Hp) : Option Hp :=
  (rc 0 h o).bind fun _ =>
  (sF 0 0 (.int a1) h o).bind fun h1 =>
  (f_X0_arrangeTriples o h1).bind fun h3 =>
  (sF 0 2 (.int (0 : Int32)) h3 o).bind fun h4 =>
  (l_X0_arrange_16 o FU (0 : Int32) h4).bind fun h9 =>
  some (h9)
set_option maxHeartbeats 2000000 in
set_option maxRecDepth 20000 in
theorem L_X0_arrange_16 {g : GT} {Γ : CT} {Q : State → Prop} {mc ms : Nat} (C : Cx g Γ cX0_arrange RX0 "arrange" 3 none 10 mc ms) {p0 : Nat} : ∀ {fuel : Nat} {x2 : Int32} {h : Hp} {hy : Hp}, l_X0_arrange_16 p0 fuel x2 h = some hy → U g Γ 3 Q 0 0 35 [] [] hy → U g Γ 3 Q 0 0 16 [(0, .ref p0), (2, .int x2)] [] h := by
  intro fuel
  induction fuel with
  | zero =>
    intro x2 h hy hf J0
    simp only [l_X0_arrange_16, reduceCtorEq] at hf
  | succ fuel ih =>
    intro x2 h hy hf J0
    rw [l_X0_arrange_16] at hf
    refine U_iload_n (n := 17) 1 C dX0_arrange_16 rfl rfl ?_
    refine U_aload_n (n := 18) 0 C dX0_arrange_17 rfl rfl rfl ?_
    refine gf_RX0_9 (n := 21) C dX0_arrange_18 hf rfl (fun v5 hf => ?_)
    refine U_icge (tgt := 35) (n := 24) C dX0_arrange_21 (by decide) rfl (fun c6 => ?_) (fun c6 => ?_)
    · replace hf := (if_pos c6).symm.trans hf
      have hr := Option.some.inj hf
      subst hr
      exact U_lv [] rfl J0
    · replace hf := (if_neg c6).symm.trans hf
      refine U_aload_n (n := 25) 0 C dX0_arrange_24 rfl rfl rfl ?_
      refine U_iload_n (n := 26) 1 C dX0_arrange_25 rfl rfl ?_
      obtain ⟨h8, ev7, hf⟩ := bsome hf
      refine cv_RX0_47 (n := 29) C dX0_arrange_26 (av := [.int x2]) rfl (rc_X0_arrangeRelations ev7) (M_X0_arrangeRelations ev7) (Nat.le_of_ble_eq_true rfl) (Nat.zero_le _) (Nat.zero_le _) (Nat.le_of_ble_eq_true rfl) rfl ?_
      refine U_iinc (n := 32) (v := (x2 + 1)) (lv2 := [(2, .int (x2 + 1)), (0, .ref p0)]) 1 C dX0_arrange_29 rfl rfl (by decide) rfl rfl ?_
      refine U_goto (n := 0) (tgt := 16) C dX0_arrange_32 (by decide) ?_
      exact U_lv [1, 0] rfl (ih hf J0)
theorem rc_X0_arrange {o : Nat} {a1 : Int32} {h : Hp} {z} (hf : f_X0_arrange o a1 h = some z) : rc 0 h o = some () := by
  unfold f_X0_arrange at hf
  exact (bsome hf).choose_spec.1
set_option maxHeartbeats 2000000 in
set_option maxRecDepth 20000 in
theorem M_X0_arrange {g : GT} {o : Nat} {a1 : Int32} {h : Hp} {h2 : Hp} (hf : f_X0_arrange o a1 h = some h2) : CM g yX0_arrange cX0_arrange 3 none 10 0 0 [.ref o, .int a1] h (.inr none) h2 := by
  refine CM_of rfl (fun _ => Nat.le_of_ble_eq_true rfl) (fun Γ C hn0 => ?_)
  have C : Cx g Γ cX0_arrange RX0 "arrange" 3 none 10 0 0 := C
  generalize hQ : Qe g Γ (.inr none) h2 0 0 = Q
  show U g Γ 3 Q 0 0 0 [(0, .ref o), (1, .int a1)] [] h
  unfold f_X0_arrange at hf
  replace hf := (bsome hf).choose_spec.2
  refine U_aload_n (n := 1) 0 C dX0_arrange_0 rfl rfl rfl ?_
  refine U_iload_n (n := 2) 1 C dX0_arrange_1 rfl rfl ?_
  refine pf_RX0_9 (n := 5) C dX0_arrange_2 hf rfl (fun h1 hf => ?_)
  refine U_aload_n (n := 6) 0 C dX0_arrange_5 rfl rfl rfl ?_
  obtain ⟨h3, ev2, hf⟩ := bsome hf
  refine cv_RX0_44 (n := 9) C dX0_arrange_6 (av := []) rfl (rc_X0_arrangeTriples ev2) (M_X0_arrangeTriples ev2) (Nat.le_of_ble_eq_true rfl) (Nat.zero_le _) (Nat.zero_le _) (Nat.le_of_ble_eq_true rfl) rfl ?_
  refine U_aload_n (n := 10) 0 C dX0_arrange_9 rfl rfl rfl ?_
  refine U_iconst (n := 11) (0 : Int32) C dX0_arrange_10 kiconst_0 rfl ?_
  refine pf_RX0_18 (n := 14) C dX0_arrange_11 hf rfl (fun h4 hf => ?_)
  refine U_iconst (n := 15) (0 : Int32) C dX0_arrange_14 kiconst_0 rfl ?_
  refine U_istore_n (n := 16) (lv2 := [(2, .int (0 : Int32)), (0, .ref o), (1, .int a1)]) C dX0_arrange_15 (by decide) rfl rfl ?_
  refine U_join1 (fun h9 => U g Γ 3 Q 0 0 35 [] [] h9) hf (fun h9 hf => ?_) (fun h9 hf J => U_lv [1, 0] rfl (L_X0_arrange_16 C hf J))
  have hr := (Option.some.inj hf)
  subst hr
  subst hQ
  exact U_vret C dX0_arrange_35 (Nat.le_refl 0) (Nat.le_refl 0)
def f_X0_parity (o : Nat) (a1 : Int32) (a2 : Int32) (a3 : Int32) (h : Hp) : Option Int32 :=
  (rc 0 h o).bind fun _ =>
  (fR 0 5 h o).bind fun v1 =>
  (f_X0_spot a1 a2 a3).bind fun v2 =>
  (aI h v1 v2).bind fun v3 =>
  some (v3)
theorem rc_X0_parity {o : Nat} {a1 : Int32} {a2 : Int32} {a3 : Int32} {h : Hp} {z} (hf : f_X0_parity o a1 a2 a3 h = some z) : rc 0 h o = some () := by
  unfold f_X0_parity at hf
  exact (bsome hf).choose_spec.1
set_option maxHeartbeats 2000000 in
set_option maxRecDepth 20000 in
theorem M_X0_parity {g : GT} {o : Nat} {a1 : Int32} {a2 : Int32} {a3 : Int32} {h : Hp} {r : Int32} (hf : f_X0_parity o a1 a2 a3 h = some r) : CM g yX0_parity cX0_parity 4 (some .int) 7 0 0 [.ref o, .int a1, .int a2, .int a3] h (.inr (some (.int r))) h := by
  refine CM_of rfl (fun _ => Nat.le_of_ble_eq_true rfl) (fun Γ C hn0 => ?_)
  have C : Cx g Γ cX0_parity RX0 "parity" 4 (some .int) 7 0 0 := C
  generalize hQ : Qe g Γ (.inr (some (.int r))) h 0 0 = Q
  show U g Γ 4 Q 0 0 0 [(0, .ref o), (1, .int a1), (2, .int a2), (3, .int a3)] [] h
  unfold f_X0_parity at hf
  replace hf := (bsome hf).choose_spec.2
  refine U_aload_n (n := 1) 0 C dX0_parity_0 rfl rfl rfl ?_
  refine gf_RX0_28 (n := 4) C dX0_parity_1 hf rfl (fun v1 hf => ?_)
  refine U_iload_n (n := 5) 1 C dX0_parity_4 rfl rfl ?_
  refine U_iload_n (n := 6) 2 C dX0_parity_5 rfl rfl ?_
  refine U_iload_n (n := 7) 3 C dX0_parity_6 rfl rfl ?_
  obtain ⟨v2, ev2, hf⟩ := bsome hf
  refine cv_RX0_59 (n := 10) C dX0_parity_7 (av := [.int a1, .int a2, .int a3]) rfl (M_X0_spot ev2) (Nat.le_of_ble_eq_true rfl) (Nat.zero_le _) (Nat.zero_le _) (Nat.le_of_ble_eq_true rfl) rfl ?_
  refine U_iald (n := 11) C dX0_parity_10 hf rfl (fun v3 hf => ?_)
  have hr := (Option.some.inj hf)
  subst hr
  subst hQ
  exact U_iret C dX0_parity_11 (Nat.le_refl 0) (Nat.le_refl 0)
def f_X0_numberOf (o : Nat) (a1 : Int32) (a2 : Int32) (a3 : Int32) (h : Hp) : Option Int32 :=
  (rc 0 h o).bind fun _ =>
  (fR 0 4 h o).bind fun v1 =>
  (f_X0_spot a1 a2 a3).bind fun v2 =>
  (aI h v1 v2).bind fun v3 =>
  some (v3)
theorem rc_X0_numberOf {o : Nat} {a1 : Int32} {a2 : Int32} {a3 : Int32} {h : Hp} {z} (hf : f_X0_numberOf o a1 a2 a3 h = some z) : rc 0 h o = some () := by
  unfold f_X0_numberOf at hf
  exact (bsome hf).choose_spec.1
set_option maxHeartbeats 2000000 in
set_option maxRecDepth 20000 in
theorem M_X0_numberOf {g : GT} {o : Nat} {a1 : Int32} {a2 : Int32} {a3 : Int32} {h : Hp} {r : Int32} (hf : f_X0_numberOf o a1 a2 a3 h = some r) : CM g yX0_numberOf cX0_numberOf 4 (some .int) 7 0 0 [.ref o, .int a1, .int a2, .int a3] h (.inr (some (.int r))) h := by
  refine CM_of rfl (fun _ => Nat.le_of_ble_eq_true rfl) (fun Γ C hn0 => ?_)
  have C : Cx g Γ cX0_numberOf RX0 "numberOf" 4 (some .int) 7 0 0 := C
  generalize hQ : Qe g Γ (.inr (some (.int r))) h 0 0 = Q
  show U g Γ 4 Q 0 0 0 [(0, .ref o), (1, .int a1), (2, .int a2), (3, .int a3)] [] h
  unfold f_X0_numberOf at hf
  replace hf := (bsome hf).choose_spec.2
  refine U_aload_n (n := 1) 0 C dX0_numberOf_0 rfl rfl rfl ?_
  refine gf_RX0_25 (n := 4) C dX0_numberOf_1 hf rfl (fun v1 hf => ?_)
  refine U_iload_n (n := 5) 1 C dX0_numberOf_4 rfl rfl ?_
  refine U_iload_n (n := 6) 2 C dX0_numberOf_5 rfl rfl ?_
  refine U_iload_n (n := 7) 3 C dX0_numberOf_6 rfl rfl ?_
  obtain ⟨v2, ev2, hf⟩ := bsome hf
  refine cv_RX0_59 (n := 10) C dX0_numberOf_7 (av := [.int a1, .int a2, .int a3]) rfl (M_X0_spot ev2) (Nat.le_of_ble_eq_true rfl) (Nat.zero_le _) (Nat.zero_le _) (Nat.le_of_ble_eq_true rfl) rfl ?_
  refine U_iald (n := 11) C dX0_numberOf_10 hf rfl (fun v3 hf => ?_)
  have hr := (Option.some.inj hf)
  subst hr
  subst hQ
  exact U_iret C dX0_numberOf_11 (Nat.le_refl 0) (Nat.le_refl 0)
def l_X0_unknownIn_11 (p0 : Nat) (p2 : Nat) (p4 : Int32) (h : Hp) : Nat → Int32 → Int32 → Option Int32
  | 0, _, _ => none
  | fuel + 1, x3, x5 =>
    if (6 : Int32) ≤ x5 then (
      some x3
    ) else (
      (fR 0 7 h p0).bind fun v2 =>
      (aI h v2 (p4 + x5)).bind fun v3 =>
      (aI h p2 v3).bind fun v4 =>
      (
        if v4 = (-100 : Int32) then (
          some ((x3 + 1))
        ) else (
          some x3
        )
      ).bind fun v6 =>
      l_X0_unknownIn_11 p0 p2 p4 h fuel v6 (x5 + 1)
    )
def f_X0_unknownIn (o : Nat) (a1 : Int32) (a2 : Nat) (h : Hp) : Option Int32 :=
  (rc 0 h o).bind fun _ =>
  (l_X0_unknownIn_11 o a2 (a1 * (6 : Int32)) h FU (0 : Int32) (0 : Int32)).bind fun v10 =>
  some (v10)
set_option maxHeartbeats 2000000 in
set_option maxRecDepth 20000 in
theorem L_X0_unknownIn_11 {g : GT} {Γ : CT} {Q : State → Prop} {mc ms : Nat} (C : Cx g Γ cX0_unknownIn RX0 "unknownIn" 6 (some .int) 6 mc ms) {p0 : Nat} {p2 : Nat} {p4 : Int32} {h : Hp} : ∀ {fuel : Nat} {x3 : Int32} {x5 : Int32} {y3 : Int32}, l_X0_unknownIn_11 p0 p2 p4 h fuel x3 x5 = some y3 → U g Γ 6 Q 0 0 44 [(3, .int y3)] [] h → U g Γ 6 Q 0 0 11 [(0, .ref p0), (2, .ref p2), (3, .int x3), (4, .int p4), (5, .int x5)] [] h := by
  intro fuel
  induction fuel with
  | zero =>
    intro x3 x5 y3 hf J0
    simp only [l_X0_unknownIn_11, reduceCtorEq] at hf
  | succ fuel ih =>
    intro x3 x5 y3 hf J0
    rw [l_X0_unknownIn_11] at hf
    refine U_iload (n := 13) 4 C dX0_unknownIn_11 rfl rfl ?_
    refine U_bipush (n := 15) (6 : Int32) C dX0_unknownIn_13 kbipush_6 rfl ?_
    refine U_icge (tgt := 44) (n := 18) C dX0_unknownIn_15 (by decide) rfl (fun c1 => ?_) (fun c1 => ?_)
    · replace hf := (if_pos c1).symm.trans hf
      have hr := Option.some.inj hf
      subst hr
      exact U_lv [2] rfl J0
    · replace hf := (if_neg c1).symm.trans hf
      refine U_aload_n (n := 19) 1 C dX0_unknownIn_18 rfl rfl rfl ?_
      refine U_aload_n (n := 20) 0 C dX0_unknownIn_19 rfl rfl rfl ?_
      refine gf_RX0_34 (n := 23) C dX0_unknownIn_20 hf rfl (fun v2 hf => ?_)
      refine U_iload (n := 25) 3 C dX0_unknownIn_23 rfl rfl ?_
      refine U_iload (n := 27) 4 C dX0_unknownIn_25 rfl rfl ?_
      refine U_iadd (n := 28) C dX0_unknownIn_27 rfl ?_
      refine U_iald (n := 29) C dX0_unknownIn_28 hf rfl (fun v3 hf => ?_)
      refine U_iald (n := 30) C dX0_unknownIn_29 hf rfl (fun v4 hf => ?_)
      refine U_bipush (n := 32) (-100 : Int32) C dX0_unknownIn_30 kbipush_m100 rfl ?_
      refine U_join1 (fun v6 => U g Γ 6 Q 0 0 38 [(0, .ref p0), (2, .ref p2), (3, .int v6), (4, .int p4), (5, .int x5)] [] h) hf (fun v6 hf => ?_) (fun v6 hf J8 => ?_)
      · skip
        refine U_iinc (n := 41) (v := (x5 + 1)) (lv2 := [(5, .int (x5 + 1)), (0, .ref p0), (2, .ref p2), (3, .int v6), (4, .int p4)]) 4 C dX0_unknownIn_38 rfl rfl (by decide) rfl rfl ?_
        refine U_goto (n := 0) (tgt := 11) C dX0_unknownIn_41 (by decide) ?_
        exact U_lv [1, 2, 3, 4, 0] rfl (ih hf J0)
      · skip
        refine U_icne (tgt := 38) (n := 35) C dX0_unknownIn_32 (by decide) rfl (fun c5 => ?_) (fun c5 => ?_)
        · replace hf := (if_pos c5).symm.trans hf
          refine U_iinc (n := 38) (v := (x3 + 1)) (lv2 := [(3, .int (x3 + 1)), (0, .ref p0), (2, .ref p2), (4, .int p4), (5, .int x5)]) 2 C dX0_unknownIn_35 rfl rfl (by decide) rfl rfl ?_
          have hr := Option.some.inj hf
          subst hr
          exact U_lv [1, 2, 0, 3, 4] rfl J8
        · replace hf := (if_neg c5).symm.trans hf
          have hr := Option.some.inj hf
          subst hr
          exact U_lv [0, 1, 2, 3, 4] rfl J8
theorem rc_X0_unknownIn {o : Nat} {a1 : Int32} {a2 : Nat} {h : Hp} {z} (hf : f_X0_unknownIn o a1 a2 h = some z) : rc 0 h o = some () := by
  unfold f_X0_unknownIn at hf
  exact (bsome hf).choose_spec.1
set_option maxHeartbeats 2000000 in
set_option maxRecDepth 20000 in
theorem M_X0_unknownIn {g : GT} {o : Nat} {a1 : Int32} {a2 : Nat} {h : Hp} {r : Int32} (hf : f_X0_unknownIn o a1 a2 h = some r) : CM g yX0_unknownIn cX0_unknownIn 6 (some .int) 6 0 0 [.ref o, .int a1, .ref a2] h (.inr (some (.int r))) h := by
  refine CM_of rfl (fun _ => Nat.le_of_ble_eq_true rfl) (fun Γ C hn0 => ?_)
  have C : Cx g Γ cX0_unknownIn RX0 "unknownIn" 6 (some .int) 6 0 0 := C
  generalize hQ : Qe g Γ (.inr (some (.int r))) h 0 0 = Q
  show U g Γ 6 Q 0 0 0 [(0, .ref o), (1, .int a1), (2, .ref a2)] [] h
  unfold f_X0_unknownIn at hf
  replace hf := (bsome hf).choose_spec.2
  refine U_iconst (n := 1) (0 : Int32) C dX0_unknownIn_0 kiconst_0 rfl ?_
  refine U_istore_n (n := 2) (lv2 := [(3, .int (0 : Int32)), (0, .ref o), (1, .int a1), (2, .ref a2)]) C dX0_unknownIn_1 (by decide) rfl rfl ?_
  refine U_iload_n (n := 3) 2 C dX0_unknownIn_2 rfl rfl ?_
  refine U_bipush (n := 5) (6 : Int32) C dX0_unknownIn_3 kbipush_6 rfl ?_
  refine U_imul (n := 6) C dX0_unknownIn_5 rfl ?_
  refine U_istore (n := 8) (lv2 := [(4, .int (a1 * (6 : Int32))), (3, .int (0 : Int32)), (0, .ref o), (1, .int a1), (2, .ref a2)]) C dX0_unknownIn_6 (by decide) rfl rfl ?_
  refine U_iconst (n := 9) (0 : Int32) C dX0_unknownIn_8 kiconst_0 rfl ?_
  refine U_istore (n := 11) (lv2 := [(5, .int (0 : Int32)), (4, .int (a1 * (6 : Int32))), (3, .int (0 : Int32)), (0, .ref o), (1, .int a1), (2, .ref a2)]) C dX0_unknownIn_9 (by decide) rfl rfl ?_
  refine U_join1 (fun v10 => U g Γ 6 Q 0 0 44 [(3, .int v10)] [] h) hf (fun v10 hf => ?_) (fun v10 hf J => U_lv [3, 5, 2, 1, 0] rfl (L_X0_unknownIn_11 C hf J))
  refine U_iload_n (n := 45) 0 C dX0_unknownIn_44 rfl rfl ?_
  have hr := (Option.some.inj hf)
  subst hr
  subst hQ
  exact U_iret C dX0_unknownIn_45 (Nat.le_refl 0) (Nat.le_refl 0)
def f_X0_factor (o : Nat) (a1 : Int32) (a2 : Int32) (h : Hp) : Option Int32 :=
  (rc 0 h o).bind fun _ =>
  (fR 0 7 h o).bind fun v1 =>
  (aI h v1 ((a1 * (6 : Int32)) + a2)).bind fun v2 =>
  some (v2)
theorem rc_X0_factor {o : Nat} {a1 : Int32} {a2 : Int32} {h : Hp} {z} (hf : f_X0_factor o a1 a2 h = some z) : rc 0 h o = some () := by
  unfold f_X0_factor at hf
  exact (bsome hf).choose_spec.1
set_option maxHeartbeats 2000000 in
set_option maxRecDepth 20000 in
theorem M_X0_factor {g : GT} {o : Nat} {a1 : Int32} {a2 : Int32} {h : Hp} {r : Int32} (hf : f_X0_factor o a1 a2 h = some r) : CM g yX0_factor cX0_factor 3 (some .int) 6 0 0 [.ref o, .int a1, .int a2] h (.inr (some (.int r))) h := by
  refine CM_of rfl (fun _ => Nat.le_of_ble_eq_true rfl) (fun Γ C hn0 => ?_)
  have C : Cx g Γ cX0_factor RX0 "factor" 3 (some .int) 6 0 0 := C
  generalize hQ : Qe g Γ (.inr (some (.int r))) h 0 0 = Q
  show U g Γ 3 Q 0 0 0 [(0, .ref o), (1, .int a1), (2, .int a2)] [] h
  unfold f_X0_factor at hf
  replace hf := (bsome hf).choose_spec.2
  refine U_aload_n (n := 1) 0 C dX0_factor_0 rfl rfl rfl ?_
  refine gf_RX0_34 (n := 4) C dX0_factor_1 hf rfl (fun v1 hf => ?_)
  refine U_iload_n (n := 5) 1 C dX0_factor_4 rfl rfl ?_
  refine U_bipush (n := 7) (6 : Int32) C dX0_factor_5 kbipush_6 rfl ?_
  refine U_imul (n := 8) C dX0_factor_7 rfl ?_
  refine U_iload_n (n := 9) 2 C dX0_factor_8 rfl rfl ?_
  refine U_iadd (n := 10) C dX0_factor_9 rfl ?_
  refine U_iald (n := 11) C dX0_factor_10 hf rfl (fun v2 hf => ?_)
  have hr := (Option.some.inj hf)
  subst hr
  subst hQ
  exact U_iret C dX0_factor_11 (Nat.le_refl 0) (Nat.le_refl 0)
def l_X0_firstUnknownIn_2 (p0 : Nat) (p1 : Int32) (p2 : Nat) (h : Hp) : Nat → Int32 → Option Int32
  | 0, _ => none
  | fuel + 1, x3 =>
    if (5 : Int32) ≤ x3 then (
      some x3
    ) else (
      (f_X0_factor p0 p1 x3 h).bind fun v2 =>
      (aI h p2 v2).bind fun v3 =>
      if v3 = (-100 : Int32) then (
        some x3
      ) else (
        l_X0_firstUnknownIn_2 p0 p1 p2 h fuel (x3 + 1)
      )
    )
def f_X0_firstUnknownIn (o : Nat) (a1 : Int32) (a2 : Nat) (h : Hp) : Option Int32 :=
  (rc 0 h o).bind fun _ =>
  (l_X0_firstUnknownIn_2 o a1 a2 h FU (0 : Int32)).bind fun v5 =>
  (f_X0_factor o a1 v5 h).bind fun v6 =>
  some (v6)
set_option maxHeartbeats 2000000 in
set_option maxRecDepth 20000 in
theorem L_X0_firstUnknownIn_2 {g : GT} {Γ : CT} {Q : State → Prop} {mc ms : Nat} (C : Cx g Γ cX0_firstUnknownIn RX0 "firstUnknownIn" 4 (some .int) 7 mc ms) {p0 : Nat} {p1 : Int32} {p2 : Nat} {h : Hp} : ∀ {fuel : Nat} {x3 : Int32} {y3 : Int32}, l_X0_firstUnknownIn_2 p0 p1 p2 h fuel x3 = some y3 → U g Γ 4 Q 0 0 26 [(0, .ref p0), (1, .int p1), (3, .int y3)] [] h → U g Γ 4 Q 0 0 2 [(0, .ref p0), (1, .int p1), (2, .ref p2), (3, .int x3)] [] h := by
  intro fuel
  induction fuel with
  | zero =>
    intro x3 y3 hf J0
    simp only [l_X0_firstUnknownIn_2, reduceCtorEq] at hf
  | succ fuel ih =>
    intro x3 y3 hf J0
    rw [l_X0_firstUnknownIn_2] at hf
    refine U_iload_n (n := 3) 3 C dX0_firstUnknownIn_2 rfl rfl ?_
    refine U_iconst (n := 4) (5 : Int32) C dX0_firstUnknownIn_3 kiconst_5 rfl ?_
    refine U_icge (tgt := 26) (n := 7) C dX0_firstUnknownIn_4 (by decide) rfl (fun c1 => ?_) (fun c1 => ?_)
    · replace hf := (if_pos c1).symm.trans hf
      have hr := Option.some.inj hf
      subst hr
      exact U_lv [0, 1, 3] rfl J0
    · replace hf := (if_neg c1).symm.trans hf
      refine U_aload_n (n := 8) 2 C dX0_firstUnknownIn_7 rfl rfl rfl ?_
      refine U_aload_n (n := 9) 0 C dX0_firstUnknownIn_8 rfl rfl rfl ?_
      refine U_iload_n (n := 10) 1 C dX0_firstUnknownIn_9 rfl rfl ?_
      refine U_iload_n (n := 11) 3 C dX0_firstUnknownIn_10 rfl rfl ?_
      obtain ⟨v2, ev2, hf⟩ := bsome hf
      refine cv_RX0_74 (n := 14) C dX0_firstUnknownIn_11 (av := [.int p1, .int x3]) rfl (rc_X0_factor ev2) (M_X0_factor ev2) (Nat.le_of_ble_eq_true rfl) (Nat.zero_le _) (Nat.zero_le _) (Nat.le_of_ble_eq_true rfl) rfl ?_
      refine U_iald (n := 15) C dX0_firstUnknownIn_14 hf rfl (fun v3 hf => ?_)
      refine U_bipush (n := 17) (-100 : Int32) C dX0_firstUnknownIn_15 kbipush_m100 rfl ?_
      refine U_iceq (tgt := 26) (n := 20) C dX0_firstUnknownIn_17 (by decide) rfl (fun c4 => ?_) (fun c4 => ?_)
      · replace hf := (if_pos c4).symm.trans hf
        have hr := Option.some.inj hf
        subst hr
        exact U_lv [0, 1, 3] rfl J0
      · replace hf := (if_neg c4).symm.trans hf
        refine U_iinc (n := 23) (v := (x3 + 1)) (lv2 := [(3, .int (x3 + 1)), (0, .ref p0), (1, .int p1), (2, .ref p2)]) 3 C dX0_firstUnknownIn_20 rfl rfl (by decide) rfl rfl ?_
        refine U_goto (n := 0) (tgt := 2) C dX0_firstUnknownIn_23 (by decide) ?_
        exact U_lv [1, 2, 3, 0] rfl (ih hf J0)
theorem rc_X0_firstUnknownIn {o : Nat} {a1 : Int32} {a2 : Nat} {h : Hp} {z} (hf : f_X0_firstUnknownIn o a1 a2 h = some z) : rc 0 h o = some () := by
  unfold f_X0_firstUnknownIn at hf
  exact (bsome hf).choose_spec.1
set_option maxHeartbeats 2000000 in
set_option maxRecDepth 20000 in
theorem M_X0_firstUnknownIn {g : GT} {o : Nat} {a1 : Int32} {a2 : Nat} {h : Hp} {r : Int32} (hf : f_X0_firstUnknownIn o a1 a2 h = some r) : CM g yX0_firstUnknownIn cX0_firstUnknownIn 4 (some .int) 7 0 0 [.ref o, .int a1, .ref a2] h (.inr (some (.int r))) h := by
  refine CM_of rfl (fun _ => Nat.le_of_ble_eq_true rfl) (fun Γ C hn0 => ?_)
  have C : Cx g Γ cX0_firstUnknownIn RX0 "firstUnknownIn" 4 (some .int) 7 0 0 := C
  generalize hQ : Qe g Γ (.inr (some (.int r))) h 0 0 = Q
  show U g Γ 4 Q 0 0 0 [(0, .ref o), (1, .int a1), (2, .ref a2)] [] h
  unfold f_X0_firstUnknownIn at hf
  replace hf := (bsome hf).choose_spec.2
  refine U_iconst (n := 1) (0 : Int32) C dX0_firstUnknownIn_0 kiconst_0 rfl ?_
  refine U_istore_n (n := 2) (lv2 := [(3, .int (0 : Int32)), (0, .ref o), (1, .int a1), (2, .ref a2)]) C dX0_firstUnknownIn_1 (by decide) rfl rfl ?_
  refine U_join1 (fun v5 => U g Γ 4 Q 0 0 26 [(0, .ref o), (1, .int a1), (3, .int v5)] [] h) hf (fun v5 hf => ?_) (fun v5 hf J => U_lv [1, 2, 3, 0] rfl (L_X0_firstUnknownIn_2 C hf J))
  refine U_aload_n (n := 27) 0 C dX0_firstUnknownIn_26 rfl rfl rfl ?_
  refine U_iload_n (n := 28) 1 C dX0_firstUnknownIn_27 rfl rfl ?_
  refine U_iload_n (n := 29) 2 C dX0_firstUnknownIn_28 rfl rfl ?_
  obtain ⟨v6, ev6, hf⟩ := bsome hf
  refine cv_RX0_74 (n := 32) C dX0_firstUnknownIn_29 (av := [.int a1, .int v5]) rfl (rc_X0_factor ev6) (M_X0_factor ev6) (Nat.le_of_ble_eq_true rfl) (Nat.zero_le _) (Nat.zero_le _) (Nat.le_of_ble_eq_true rfl) rfl ?_
  have hr := (Option.some.inj hf)
  subst hr
  subst hQ
  exact U_iret C dX0_firstUnknownIn_32 (Nat.le_refl 0) (Nat.le_refl 0)
def l_X0_verdict_19 (p0 : Nat) (p1 : Int32) (p2 : Nat) (h : Hp) : Nat → Int32 → Int32 → Int32 → Option (Int32 × Int32)
  | 0, _, _, _ => none
  | fuel + 1, x3, x4, x5 =>
    if (3 : Int32) ≤ x5 then (
      some ((x3, x4))
    ) else (
      (fR 0 8 h p0).bind fun v4 =>
      (aI h v4 ((p1 * (3 : Int32)) + x5)).bind fun v5 =>
      (f_X0_factor p0 p1 ((2 : Int32) * x5) h).bind fun v6 =>
      (aI h p2 v6).bind fun v7 =>
      (f_X0_factor p0 p1 (((2 : Int32) * x5) + (1 : Int32)) h).bind fun v8 =>
      (aI h p2 v8).bind fun v9 =>
      (
        if x3 = 0 then (
          if ((v5 * v7) * v9) = (1 : Int32) then (
            some ((1 : Int32))
          ) else (
            some ((0 : Int32))
          )
        ) else (
          some ((1 : Int32))
        )
      ).bind fun v11 =>
      (
        if x4 = 0 then (
          if ((v5 * v7) * v9) = (-1 : Int32) then (
            some ((1 : Int32))
          ) else (
            some ((0 : Int32))
          )
        ) else (
          some ((1 : Int32))
        )
      ).bind fun v16 =>
      l_X0_verdict_19 p0 p1 p2 h fuel v11 v16 (x5 + 1)
    )
def f_X0_verdict (o : Nat) (a1 : Int32) (a2 : Nat) (h : Hp) : Option Int32 :=
  (rc 0 h o).bind fun _ =>
  (f_X0_unknownIn o a1 a2 h).bind fun v1 =>
  if v1 ≤ 0 then (
    bind2 (l_X0_verdict_19 o a1 a2 h FU (0 : Int32) (0 : Int32) (0 : Int32)) fun v22 v23 =>
    if v22 = v23 then (
      some ((1 : Int32))
    ) else (
      some ((-1 : Int32))
    )
  ) else (
    some ((0 : Int32))
  )
set_option maxHeartbeats 2000000 in
set_option maxRecDepth 20000 in
theorem L_X0_verdict_19 {g : GT} {Γ : CT} {Q : State → Prop} {mc ms : Nat} (C : Cx g Γ cX0_verdict RX0 "verdict" 7 (some .int) 7 mc ms) {p0 : Nat} {p1 : Int32} {p2 : Nat} {h : Hp} : ∀ {fuel : Nat} {x3 : Int32} {x4 : Int32} {x5 : Int32} {y3 : Int32} {y4 : Int32}, l_X0_verdict_19 p0 p1 p2 h fuel x3 x4 x5 = some (y3, y4) → U g Γ 7 Q 0 0 104 [(3, .int y3), (4, .int y4)] [] h → U g Γ 7 Q 0 0 19 [(0, .ref p0), (1, .int p1), (2, .ref p2), (3, .int x3), (4, .int x4), (5, .int x5)] [] h := by
  intro fuel
  induction fuel with
  | zero =>
    intro x3 x4 x5 y3 y4 hf J0
    simp only [l_X0_verdict_19, reduceCtorEq] at hf
  | succ fuel ih =>
    intro x3 x4 x5 y3 y4 hf J0
    rw [l_X0_verdict_19] at hf
    refine U_iload (n := 21) 5 C dX0_verdict_19 rfl rfl ?_
    refine U_iconst (n := 22) (3 : Int32) C dX0_verdict_21 kiconst_3 rfl ?_
    refine U_icge (tgt := 104) (n := 25) C dX0_verdict_22 (by decide) rfl (fun c3 => ?_) (fun c3 => ?_)
    · replace hf := (if_pos c3).symm.trans hf
      obtain ⟨hr0, hs0⟩ := Prod.mk.inj (Option.some.inj hf)
      subst hr0
      subst hs0
      exact U_lv [3, 4] rfl J0
    · replace hf := (if_neg c3).symm.trans hf
      refine U_aload_n (n := 26) 0 C dX0_verdict_25 rfl rfl rfl ?_
      refine gf_RX0_37 (n := 29) C dX0_verdict_26 hf rfl (fun v4 hf => ?_)
      refine U_iload_n (n := 30) 1 C dX0_verdict_29 rfl rfl ?_
      refine U_iconst (n := 31) (3 : Int32) C dX0_verdict_30 kiconst_3 rfl ?_
      refine U_imul (n := 32) C dX0_verdict_31 rfl ?_
      refine U_iload (n := 34) 5 C dX0_verdict_32 rfl rfl ?_
      refine U_iadd (n := 35) C dX0_verdict_34 rfl ?_
      refine U_iald (n := 36) C dX0_verdict_35 hf rfl (fun v5 hf => ?_)
      refine U_aload_n (n := 37) 2 C dX0_verdict_36 rfl rfl rfl ?_
      refine U_aload_n (n := 38) 0 C dX0_verdict_37 rfl rfl rfl ?_
      refine U_iload_n (n := 39) 1 C dX0_verdict_38 rfl rfl ?_
      refine U_iconst (n := 40) (2 : Int32) C dX0_verdict_39 kiconst_2 rfl ?_
      refine U_iload (n := 42) 5 C dX0_verdict_40 rfl rfl ?_
      refine U_imul (n := 43) C dX0_verdict_42 rfl ?_
      obtain ⟨v6, ev6, hf⟩ := bsome hf
      refine cv_RX0_74 (n := 46) C dX0_verdict_43 (av := [.int p1, .int ((2 : Int32) * x5)]) rfl (rc_X0_factor ev6) (M_X0_factor ev6) (Nat.le_of_ble_eq_true rfl) (Nat.zero_le _) (Nat.zero_le _) (Nat.le_of_ble_eq_true rfl) rfl ?_
      refine U_iald (n := 47) C dX0_verdict_46 hf rfl (fun v7 hf => ?_)
      refine U_imul (n := 48) C dX0_verdict_47 rfl ?_
      refine U_aload_n (n := 49) 2 C dX0_verdict_48 rfl rfl rfl ?_
      refine U_aload_n (n := 50) 0 C dX0_verdict_49 rfl rfl rfl ?_
      refine U_iload_n (n := 51) 1 C dX0_verdict_50 rfl rfl ?_
      refine U_iconst (n := 52) (2 : Int32) C dX0_verdict_51 kiconst_2 rfl ?_
      refine U_iload (n := 54) 5 C dX0_verdict_52 rfl rfl ?_
      refine U_imul (n := 55) C dX0_verdict_54 rfl ?_
      refine U_iconst (n := 56) (1 : Int32) C dX0_verdict_55 kiconst_1 rfl ?_
      refine U_iadd (n := 57) C dX0_verdict_56 rfl ?_
      obtain ⟨v8, ev8, hf⟩ := bsome hf
      refine cv_RX0_74 (n := 60) C dX0_verdict_57 (av := [.int p1, .int (((2 : Int32) * x5) + (1 : Int32))]) rfl (rc_X0_factor ev8) (M_X0_factor ev8) (Nat.le_of_ble_eq_true rfl) (Nat.zero_le _) (Nat.zero_le _) (Nat.le_of_ble_eq_true rfl) rfl ?_
      refine U_iald (n := 61) C dX0_verdict_60 hf rfl (fun v9 hf => ?_)
      refine U_imul (n := 62) C dX0_verdict_61 rfl ?_
      refine U_istore (n := 64) (lv2 := [(6, .int ((v5 * v7) * v9)), (0, .ref p0), (1, .int p1), (2, .ref p2), (3, .int x3), (4, .int x4), (5, .int x5)]) C dX0_verdict_62 (by decide) rfl rfl ?_
      refine U_iload_n (n := 65) 4 C dX0_verdict_64 rfl rfl ?_
      refine U_join1 (fun v11 => U g Γ 7 Q 0 0 79 [(0, .ref p0), (1, .int p1), (2, .ref p2), (4, .int x4), (5, .int x5), (6, .int ((v5 * v7) * v9))] [.int v11] h) hf (fun v11 hf => ?_) (fun v11 hf J13 => ?_)
      · skip
        refine U_istore_n (n := 80) (lv2 := [(3, .int v11), (0, .ref p0), (1, .int p1), (2, .ref p2), (4, .int x4), (5, .int x5), (6, .int ((v5 * v7) * v9))]) C dX0_verdict_79 (by decide) rfl rfl ?_
        refine U_iload (n := 82) 4 C dX0_verdict_80 rfl rfl ?_
        refine U_join1 (fun v16 => U g Γ 7 Q 0 0 96 [(0, .ref p0), (1, .int p1), (2, .ref p2), (3, .int v11), (5, .int x5)] [.int v16] h) hf (fun v16 hf => ?_) (fun v16 hf J18 => ?_)
        · skip
          refine U_istore (n := 98) (lv2 := [(4, .int v16), (0, .ref p0), (1, .int p1), (2, .ref p2), (3, .int v11), (5, .int x5)]) C dX0_verdict_96 (by decide) rfl rfl ?_
          refine U_iinc (n := 101) (v := (x5 + 1)) (lv2 := [(5, .int (x5 + 1)), (4, .int v16), (0, .ref p0), (1, .int p1), (2, .ref p2), (3, .int v11)]) 5 C dX0_verdict_98 rfl rfl (by decide) rfl rfl ?_
          refine U_goto (n := 0) (tgt := 19) C dX0_verdict_101 (by decide) ?_
          exact U_lv [2, 3, 4, 5, 1, 0] rfl (ih hf J0)
        · skip
          refine U_ifne (tgt := 91) (n := 85) C dX0_verdict_82 (by decide) rfl (fun c15 => ?_) (fun c15 => ?_)
          · replace hf := (if_pos c15).symm.trans hf
            refine U_iload (n := 87) 6 C dX0_verdict_85 rfl rfl ?_
            refine U_iconst (n := 88) (-1 : Int32) C dX0_verdict_87 kiconst_m1 rfl ?_
            refine U_icne (tgt := 95) (n := 91) C dX0_verdict_88 (by decide) rfl (fun c20 => ?_) (fun c20 => ?_)
            · replace hf := (if_pos c20).symm.trans hf
              refine U_iconst (n := 92) (1 : Int32) C dX0_verdict_91 kiconst_1 rfl ?_
              refine U_goto (n := 0) (tgt := 96) C dX0_verdict_92 (by decide) ?_
              have hr := Option.some.inj hf
              subst hr
              exact U_lv [1, 2, 3, 0, 5] rfl J18
            · replace hf := (if_neg c20).symm.trans hf
              refine U_iconst (n := 96) (0 : Int32) C dX0_verdict_95 kiconst_0 rfl ?_
              have hr := Option.some.inj hf
              subst hr
              exact U_lv [1, 2, 3, 0, 5] rfl J18
          · replace hf := (if_neg c15).symm.trans hf
            refine U_iconst (n := 92) (1 : Int32) C dX0_verdict_91 kiconst_1 rfl ?_
            refine U_goto (n := 0) (tgt := 96) C dX0_verdict_92 (by decide) ?_
            have hr := Option.some.inj hf
            subst hr
            exact U_lv [1, 2, 3, 0, 5] rfl J18
      · skip
        refine U_ifne (tgt := 74) (n := 68) C dX0_verdict_65 (by decide) rfl (fun c10 => ?_) (fun c10 => ?_)
        · replace hf := (if_pos c10).symm.trans hf
          refine U_iload (n := 70) 0 C dX0_verdict_68 rfl rfl ?_
          refine U_iconst (n := 71) (1 : Int32) C dX0_verdict_70 kiconst_1 rfl ?_
          refine U_icne (tgt := 78) (n := 74) C dX0_verdict_71 (by decide) rfl (fun c21 => ?_) (fun c21 => ?_)
          · replace hf := (if_pos c21).symm.trans hf
            refine U_iconst (n := 75) (1 : Int32) C dX0_verdict_74 kiconst_1 rfl ?_
            refine U_goto (n := 0) (tgt := 79) C dX0_verdict_75 (by decide) ?_
            have hr := Option.some.inj hf
            subst hr
            exact U_lv [1, 2, 3, 5, 6, 0] rfl J13
          · replace hf := (if_neg c21).symm.trans hf
            refine U_iconst (n := 79) (0 : Int32) C dX0_verdict_78 kiconst_0 rfl ?_
            have hr := Option.some.inj hf
            subst hr
            exact U_lv [1, 2, 3, 5, 6, 0] rfl J13
        · replace hf := (if_neg c10).symm.trans hf
          refine U_iconst (n := 75) (1 : Int32) C dX0_verdict_74 kiconst_1 rfl ?_
          refine U_goto (n := 0) (tgt := 79) C dX0_verdict_75 (by decide) ?_
          have hr := Option.some.inj hf
          subst hr
          exact U_lv [1, 2, 3, 5, 6, 0] rfl J13
theorem rc_X0_verdict {o : Nat} {a1 : Int32} {a2 : Nat} {h : Hp} {z} (hf : f_X0_verdict o a1 a2 h = some z) : rc 0 h o = some () := by
  unfold f_X0_verdict at hf
  exact (bsome hf).choose_spec.1
set_option maxHeartbeats 2000000 in
set_option maxRecDepth 20000 in
theorem M_X0_verdict {g : GT} {o : Nat} {a1 : Int32} {a2 : Nat} {h : Hp} {r : Int32} (hf : f_X0_verdict o a1 a2 h = some r) : CM g yX0_verdict cX0_verdict 7 (some .int) 7 0 0 [.ref o, .int a1, .ref a2] h (.inr (some (.int r))) h := by
  refine CM_of rfl (fun _ => Nat.le_of_ble_eq_true rfl) (fun Γ C hn0 => ?_)
  have C : Cx g Γ cX0_verdict RX0 "verdict" 7 (some .int) 7 0 0 := C
  generalize hQ : Qe g Γ (.inr (some (.int r))) h 0 0 = Q
  show U g Γ 7 Q 0 0 0 [(0, .ref o), (1, .int a1), (2, .ref a2)] [] h
  unfold f_X0_verdict at hf
  replace hf := (bsome hf).choose_spec.2
  refine U_aload_n (n := 1) 0 C dX0_verdict_0 rfl rfl rfl ?_
  refine U_iload_n (n := 2) 1 C dX0_verdict_1 rfl rfl ?_
  refine U_aload_n (n := 3) 2 C dX0_verdict_2 rfl rfl rfl ?_
  obtain ⟨v1, ev1, hf⟩ := bsome hf
  refine cv_RX0_77 (n := 6) C dX0_verdict_3 (av := [.int a1, .ref a2]) rfl (rc_X0_unknownIn ev1) (M_X0_unknownIn ev1) (Nat.le_of_ble_eq_true rfl) (Nat.zero_le _) (Nat.zero_le _) (Nat.le_of_ble_eq_true rfl) rfl ?_
  refine U_ifle (tgt := 11) (n := 9) C dX0_verdict_6 (by decide) rfl (fun c2 => ?_) (fun c2 => ?_)
  · replace hf := (if_pos c2).symm.trans hf
    refine U_iconst (n := 12) (0 : Int32) C dX0_verdict_11 kiconst_0 rfl ?_
    refine U_istore_n (n := 13) (lv2 := [(3, .int (0 : Int32)), (0, .ref o), (1, .int a1), (2, .ref a2)]) C dX0_verdict_12 (by decide) rfl rfl ?_
    refine U_iconst (n := 14) (0 : Int32) C dX0_verdict_13 kiconst_0 rfl ?_
    refine U_istore (n := 16) (lv2 := [(4, .int (0 : Int32)), (3, .int (0 : Int32)), (0, .ref o), (1, .int a1), (2, .ref a2)]) C dX0_verdict_14 (by decide) rfl rfl ?_
    refine U_iconst (n := 17) (0 : Int32) C dX0_verdict_16 kiconst_0 rfl ?_
    refine U_istore (n := 19) (lv2 := [(5, .int (0 : Int32)), (4, .int (0 : Int32)), (3, .int (0 : Int32)), (0, .ref o), (1, .int a1), (2, .ref a2)]) C dX0_verdict_17 (by decide) rfl rfl ?_
    refine U_join2 (fun v22 v23 => U g Γ 7 Q 0 0 104 [(3, .int v22), (4, .int v23)] [] h) hf (fun v22 v23 hf => ?_) (fun v22 v23 hf J => U_lv [3, 4, 5, 2, 1, 0] rfl (L_X0_verdict_19 C hf J))
    refine U_iload_n (n := 105) 0 C dX0_verdict_104 rfl rfl ?_
    refine U_iload (n := 107) 1 C dX0_verdict_105 rfl rfl ?_
    refine U_icne (tgt := 114) (n := 110) C dX0_verdict_107 (by decide) rfl (fun c24 => ?_) (fun c24 => ?_)
    · replace hf := (if_pos c24).symm.trans hf
      refine U_iconst (n := 111) (1 : Int32) C dX0_verdict_110 kiconst_1 rfl ?_
      refine U_goto (n := 0) (tgt := 115) C dX0_verdict_111 (by decide) ?_
      have hr := (Option.some.inj hf)
      subst hr
      subst hQ
      exact U_iret C dX0_verdict_115 (Nat.le_refl 0) (Nat.le_refl 0)
    · replace hf := (if_neg c24).symm.trans hf
      refine U_iconst (n := 115) (-1 : Int32) C dX0_verdict_114 kiconst_m1 rfl ?_
      have hr := (Option.some.inj hf)
      subst hr
      subst hQ
      exact U_iret C dX0_verdict_115 (Nat.le_refl 0) (Nat.le_refl 0)
  · replace hf := (if_neg c2).symm.trans hf
    refine U_iconst (n := 10) (0 : Int32) C dX0_verdict_9 kiconst_0 rfl ?_
    have hr := (Option.some.inj hf)
    subst hr
    subst hQ
    exact U_iret C dX0_verdict_10 (Nat.le_refl 0) (Nat.le_refl 0)
def f_X0_corner (o : Nat) (a1 : Int32) (a2 : Int32) (h : Hp) : Option Int32 :=
  (rc 0 h o).bind fun _ =>
  (fR 0 3 h o).bind fun v1 =>
  (aI h v1 ((a1 * (3 : Int32)) + a2)).bind fun v2 =>
  some (v2)
theorem rc_X0_corner {o : Nat} {a1 : Int32} {a2 : Int32} {h : Hp} {z} (hf : f_X0_corner o a1 a2 h = some z) : rc 0 h o = some () := by
  unfold f_X0_corner at hf
  exact (bsome hf).choose_spec.1
set_option maxHeartbeats 2000000 in
set_option maxRecDepth 20000 in
theorem M_X0_corner {g : GT} {o : Nat} {a1 : Int32} {a2 : Int32} {h : Hp} {r : Int32} (hf : f_X0_corner o a1 a2 h = some r) : CM g yX0_corner cX0_corner 3 (some .int) 6 0 0 [.ref o, .int a1, .int a2] h (.inr (some (.int r))) h := by
  refine CM_of rfl (fun _ => Nat.le_of_ble_eq_true rfl) (fun Γ C hn0 => ?_)
  have C : Cx g Γ cX0_corner RX0 "corner" 3 (some .int) 6 0 0 := C
  generalize hQ : Qe g Γ (.inr (some (.int r))) h 0 0 = Q
  show U g Γ 3 Q 0 0 0 [(0, .ref o), (1, .int a1), (2, .int a2)] [] h
  unfold f_X0_corner at hf
  replace hf := (bsome hf).choose_spec.2
  refine U_aload_n (n := 1) 0 C dX0_corner_0 rfl rfl rfl ?_
  refine gf_RX0_21 (n := 4) C dX0_corner_1 hf rfl (fun v1 hf => ?_)
  refine U_iload_n (n := 5) 1 C dX0_corner_4 rfl rfl ?_
  refine U_iconst (n := 6) (3 : Int32) C dX0_corner_5 kiconst_3 rfl ?_
  refine U_imul (n := 7) C dX0_corner_6 rfl ?_
  refine U_iload_n (n := 8) 2 C dX0_corner_7 rfl rfl ?_
  refine U_iadd (n := 9) C dX0_corner_8 rfl ?_
  refine U_iald (n := 10) C dX0_corner_9 hf rfl (fun v2 hf => ?_)
  have hr := (Option.some.inj hf)
  subst hr
  subst hQ
  exact U_iret C dX0_corner_10 (Nat.le_refl 0) (Nat.le_refl 0)
def f_X0_hasCorner (o : Nat) (a1 : Int32) (a2 : Int32) (h : Hp) : Option Int32 :=
  (rc 0 h o).bind fun _ =>
  (f_X0_corner o a1 (0 : Int32) h).bind fun v1 =>
  if v1 = a2 then (
    some ((1 : Int32))
  ) else (
    (f_X0_corner o a1 (1 : Int32) h).bind fun v3 =>
    if v3 = a2 then (
      some ((1 : Int32))
    ) else (
      (f_X0_corner o a1 (2 : Int32) h).bind fun v5 =>
      if v5 = a2 then (
        some ((1 : Int32))
      ) else (
        some ((0 : Int32))
      )
    )
  )
theorem rc_X0_hasCorner {o : Nat} {a1 : Int32} {a2 : Int32} {h : Hp} {z} (hf : f_X0_hasCorner o a1 a2 h = some z) : rc 0 h o = some () := by
  unfold f_X0_hasCorner at hf
  exact (bsome hf).choose_spec.1
set_option maxHeartbeats 2000000 in
set_option maxRecDepth 20000 in
theorem M_X0_hasCorner {g : GT} {o : Nat} {a1 : Int32} {a2 : Int32} {h : Hp} {r : Int32} (hf : f_X0_hasCorner o a1 a2 h = some r) : CM g yX0_hasCorner cX0_hasCorner 3 (some .boolean) 7 0 0 [.ref o, .int a1, .int a2] h (.inr (some (.int r))) h := by
  refine CM_of rfl (fun _ => Nat.le_of_ble_eq_true rfl) (fun Γ C hn0 => ?_)
  have C : Cx g Γ cX0_hasCorner RX0 "hasCorner" 3 (some .boolean) 7 0 0 := C
  generalize hQ : Qe g Γ (.inr (some (.int r))) h 0 0 = Q
  show U g Γ 3 Q 0 0 0 [(0, .ref o), (1, .int a1), (2, .int a2)] [] h
  unfold f_X0_hasCorner at hf
  replace hf := (bsome hf).choose_spec.2
  refine U_aload_n (n := 1) 0 C dX0_hasCorner_0 rfl rfl rfl ?_
  refine U_iload_n (n := 2) 1 C dX0_hasCorner_1 rfl rfl ?_
  refine U_iconst (n := 3) (0 : Int32) C dX0_hasCorner_2 kiconst_0 rfl ?_
  obtain ⟨v1, ev1, hf⟩ := bsome hf
  refine cv_RX0_70 (n := 6) C dX0_hasCorner_3 (av := [.int a1, .int (0 : Int32)]) rfl (rc_X0_corner ev1) (M_X0_corner ev1) (Nat.le_of_ble_eq_true rfl) (Nat.zero_le _) (Nat.zero_le _) (Nat.le_of_ble_eq_true rfl) rfl ?_
  refine U_iload_n (n := 7) 2 C dX0_hasCorner_6 rfl rfl ?_
  refine U_iceq (tgt := 30) (n := 10) C dX0_hasCorner_7 (by decide) rfl (fun c2 => ?_) (fun c2 => ?_)
  · replace hf := (if_pos c2).symm.trans hf
    refine U_iconst (n := 31) (1 : Int32) C dX0_hasCorner_30 kiconst_1 rfl ?_
    refine U_goto (n := 0) (tgt := 35) C dX0_hasCorner_31 (by decide) ?_
    have hr := (Option.some.inj hf)
    subst hr
    subst hQ
    exact U_zret C dX0_hasCorner_35 (Or.inr rfl) (Nat.le_refl 0) (Nat.le_refl 0)
  · replace hf := (if_neg c2).symm.trans hf
    refine U_aload_n (n := 11) 0 C dX0_hasCorner_10 rfl rfl rfl ?_
    refine U_iload_n (n := 12) 1 C dX0_hasCorner_11 rfl rfl ?_
    refine U_iconst (n := 13) (1 : Int32) C dX0_hasCorner_12 kiconst_1 rfl ?_
    obtain ⟨v3, ev3, hf⟩ := bsome hf
    refine cv_RX0_70 (n := 16) C dX0_hasCorner_13 (av := [.int a1, .int (1 : Int32)]) rfl (rc_X0_corner ev3) (M_X0_corner ev3) (Nat.le_of_ble_eq_true rfl) (Nat.zero_le _) (Nat.zero_le _) (Nat.le_of_ble_eq_true rfl) rfl ?_
    refine U_iload_n (n := 17) 2 C dX0_hasCorner_16 rfl rfl ?_
    refine U_iceq (tgt := 30) (n := 20) C dX0_hasCorner_17 (by decide) rfl (fun c4 => ?_) (fun c4 => ?_)
    · replace hf := (if_pos c4).symm.trans hf
      refine U_iconst (n := 31) (1 : Int32) C dX0_hasCorner_30 kiconst_1 rfl ?_
      refine U_goto (n := 0) (tgt := 35) C dX0_hasCorner_31 (by decide) ?_
      have hr := (Option.some.inj hf)
      subst hr
      subst hQ
      exact U_zret C dX0_hasCorner_35 (Or.inr rfl) (Nat.le_refl 0) (Nat.le_refl 0)
    · replace hf := (if_neg c4).symm.trans hf
      refine U_aload_n (n := 21) 0 C dX0_hasCorner_20 rfl rfl rfl ?_
      refine U_iload_n (n := 22) 1 C dX0_hasCorner_21 rfl rfl ?_
      refine U_iconst (n := 23) (2 : Int32) C dX0_hasCorner_22 kiconst_2 rfl ?_
      obtain ⟨v5, ev5, hf⟩ := bsome hf
      refine cv_RX0_70 (n := 26) C dX0_hasCorner_23 (av := [.int a1, .int (2 : Int32)]) rfl (rc_X0_corner ev5) (M_X0_corner ev5) (Nat.le_of_ble_eq_true rfl) (Nat.zero_le _) (Nat.zero_le _) (Nat.le_of_ble_eq_true rfl) rfl ?_
      refine U_iload_n (n := 27) 2 C dX0_hasCorner_26 rfl rfl ?_
      refine U_icne (tgt := 34) (n := 30) C dX0_hasCorner_27 (by decide) rfl (fun c6 => ?_) (fun c6 => ?_)
      · replace hf := (if_pos c6).symm.trans hf
        refine U_iconst (n := 31) (1 : Int32) C dX0_hasCorner_30 kiconst_1 rfl ?_
        refine U_goto (n := 0) (tgt := 35) C dX0_hasCorner_31 (by decide) ?_
        have hr := (Option.some.inj hf)
        subst hr
        subst hQ
        exact U_zret C dX0_hasCorner_35 (Or.inr rfl) (Nat.le_refl 0) (Nat.le_refl 0)
      · replace hf := (if_neg c6).symm.trans hf
        refine U_iconst (n := 35) (0 : Int32) C dX0_hasCorner_34 kiconst_0 rfl ?_
        have hr := (Option.some.inj hf)
        subst hr
        subst hQ
        exact U_zret C dX0_hasCorner_35 (Or.inl rfl) (Nat.le_refl 0) (Nat.le_refl 0)
def f_X0_member (o : Nat) (a1 : Int32) (a2 : Int32) (h : Hp) : Option Int32 :=
  (rc 0 h o).bind fun _ =>
  (fR 0 6 h o).bind fun v1 =>
  (aI h v1 ((a1 * (5 : Int32)) + a2)).bind fun v2 =>
  some (v2)
theorem rc_X0_member {o : Nat} {a1 : Int32} {a2 : Int32} {h : Hp} {z} (hf : f_X0_member o a1 a2 h = some z) : rc 0 h o = some () := by
  unfold f_X0_member at hf
  exact (bsome hf).choose_spec.1
set_option maxHeartbeats 2000000 in
set_option maxRecDepth 20000 in
theorem M_X0_member {g : GT} {o : Nat} {a1 : Int32} {a2 : Int32} {h : Hp} {r : Int32} (hf : f_X0_member o a1 a2 h = some r) : CM g yX0_member cX0_member 3 (some .int) 6 0 0 [.ref o, .int a1, .int a2] h (.inr (some (.int r))) h := by
  refine CM_of rfl (fun _ => Nat.le_of_ble_eq_true rfl) (fun Γ C hn0 => ?_)
  have C : Cx g Γ cX0_member RX0 "member" 3 (some .int) 6 0 0 := C
  generalize hQ : Qe g Γ (.inr (some (.int r))) h 0 0 = Q
  show U g Γ 3 Q 0 0 0 [(0, .ref o), (1, .int a1), (2, .int a2)] [] h
  unfold f_X0_member at hf
  replace hf := (bsome hf).choose_spec.2
  refine U_aload_n (n := 1) 0 C dX0_member_0 rfl rfl rfl ?_
  refine gf_RX0_31 (n := 4) C dX0_member_1 hf rfl (fun v1 hf => ?_)
  refine U_iload_n (n := 5) 1 C dX0_member_4 rfl rfl ?_
  refine U_iconst (n := 6) (5 : Int32) C dX0_member_5 kiconst_5 rfl ?_
  refine U_imul (n := 7) C dX0_member_6 rfl ?_
  refine U_iload_n (n := 8) 2 C dX0_member_7 rfl rfl ?_
  refine U_iadd (n := 9) C dX0_member_8 rfl ?_
  refine U_iald (n := 10) C dX0_member_9 hf rfl (fun v2 hf => ?_)
  have hr := (Option.some.inj hf)
  subst hr
  subst hQ
  exact U_iret C dX0_member_10 (Nat.le_refl 0) (Nat.le_refl 0)
def l_X0_isViolatedWith_7 (p0 : Nat) (p2 : Nat) (p3 : Int64) (h : Hp) : Nat → Int32 → Option (Unit ⊕ Int32)
  | 0, _ => none
  | fuel + 1, x5 =>
    (fI 0 2 h p0).bind fun v1 =>
    if v1 ≤ x5 then (
      some (.inl ())
    ) else (
      (fR 0 9 h p0).bind fun v3 =>
      (aJ h v3 x5).bind fun v4 =>
      bindQ0 (
        if (lg_cmp (v4 &&& p3) (0 : Int64)) = 0 then (
          some (Sum.inl ())
        ) else (
          (f_X0_verdict p0 x5 p2 h).bind fun v9 =>
          if 0 ≤ v9 then (
            some (Sum.inl ())
          ) else (
            some (.inr ((1 : Int32)))
          )
        )
      ) fun _ =>
      l_X0_isViolatedWith_7 p0 p2 p3 h fuel (x5 + 1)
    )
def f_X0_isViolatedWith (o : Nat) (a1 : Int32) (a2 : Nat) (h : Hp) : Option Int32 :=
  (rc 0 h o).bind fun _ =>
  bindR0 (l_X0_isViolatedWith_7 o a2 ((1 : Int64) <<< ((a1).toInt64 &&& 63)) h FU (0 : Int32)) fun _ =>
  some ((0 : Int32))
set_option maxHeartbeats 2000000 in
set_option maxRecDepth 20000 in
theorem L_X0_isViolatedWith_7 {g : GT} {Γ : CT} {Q : State → Prop} {mc ms : Nat} (C : Cx g Γ cX0_isViolatedWith RX0 "isViolatedWith" 6 (some .boolean) 8 mc ms) {p0 : Nat} {p2 : Nat} {p3 : Int64} {h : Hp} : ∀ {fuel : Nat} {x5 : Int32} {out : (Unit ⊕ Int32)}, l_X0_isViolatedWith_7 p0 p2 p3 h fuel x5 = some out → (out = .inl () → U g Γ 6 Q 0 0 48 [] [] h) → (∀ r, out = .inr r → Qe g Γ (.inr (some (.int r))) h 0 0 = Q) → U g Γ 6 Q 0 0 7 [(0, .ref p0), (2, .ref p2), (3, .long p3), (5, .int x5)] [] h := by
  intro fuel
  induction fuel with
  | zero =>
    intro x5 out hf J0 R0
    simp only [l_X0_isViolatedWith_7, reduceCtorEq] at hf
  | succ fuel ih =>
    intro x5 out hf J0 R0
    rw [l_X0_isViolatedWith_7] at hf
    refine U_iload (n := 9) 3 C dX0_isViolatedWith_7 rfl rfl ?_
    refine U_aload_n (n := 10) 0 C dX0_isViolatedWith_9 rfl rfl rfl ?_
    refine gf_RX0_18 (n := 13) C dX0_isViolatedWith_10 hf rfl (fun v1 hf => ?_)
    refine U_icge (tgt := 48) (n := 16) C dX0_isViolatedWith_13 (by decide) rfl (fun c2 => ?_) (fun c2 => ?_)
    · replace hf := (if_pos c2).symm.trans hf
      have hr := Option.some.inj hf
      subst hr
      exact U_lv [] rfl (J0 rfl)
    · replace hf := (if_neg c2).symm.trans hf
      refine U_aload_n (n := 17) 0 C dX0_isViolatedWith_16 rfl rfl rfl ?_
      refine gf_RX0_40 (n := 20) C dX0_isViolatedWith_17 hf rfl (fun v3 hf => ?_)
      refine U_iload (n := 22) 3 C dX0_isViolatedWith_20 rfl rfl ?_
      refine U_lald (n := 23) C dX0_isViolatedWith_22 hf rfl (fun v4 hf => ?_)
      refine U_lload_n (n := 24) 2 C dX0_isViolatedWith_23 rfl rfl ?_
      refine U_land (n := 25) C dX0_isViolatedWith_24 rfl ?_
      refine U_lconst (n := 26) (0 : Int64) C dX0_isViolatedWith_25 klconst_0 rfl ?_
      refine U_lcmp (n := 27) C dX0_isViolatedWith_26 rfl ?_
      refine U_joinQ0 (U g Γ 6 Q 0 0 42 [(0, .ref p0), (2, .ref p2), (3, .long p3), (5, .int x5)] [] h) hf (fun hf => ?_) (fun o6 hf J7 R8 => ?_)
      · skip
        refine U_iinc (n := 45) (v := (x5 + 1)) (lv2 := [(5, .int (x5 + 1)), (0, .ref p0), (2, .ref p2), (3, .long p3)]) 3 C dX0_isViolatedWith_42 rfl rfl (by decide) rfl rfl ?_
        refine U_goto (n := 0) (tgt := 7) C dX0_isViolatedWith_45 (by decide) ?_
        exact U_lv [1, 2, 3, 0] rfl (ih hf J0 R0)
      · skip
        refine U_ifeq (tgt := 42) (n := 30) C dX0_isViolatedWith_27 (by decide) rfl (fun c5 => ?_) (fun c5 => ?_)
        · replace hf := (if_pos c5).symm.trans hf
          have hr := Option.some.inj hf
          subst hr
          exact U_lv [0, 1, 2, 3] rfl (J7 rfl)
        · replace hf := (if_neg c5).symm.trans hf
          refine U_aload_n (n := 31) 0 C dX0_isViolatedWith_30 rfl rfl rfl ?_
          refine U_iload (n := 33) 3 C dX0_isViolatedWith_31 rfl rfl ?_
          refine U_aload_n (n := 34) 1 C dX0_isViolatedWith_33 rfl rfl rfl ?_
          obtain ⟨v9, ev9, hf⟩ := bsome hf
          refine cv_RX0_81 (n := 37) C dX0_isViolatedWith_34 (av := [.int x5, .ref p2]) rfl (rc_X0_verdict ev9) (M_X0_verdict ev9) (Nat.le_of_ble_eq_true rfl) (Nat.zero_le _) (Nat.zero_le _) (Nat.le_of_ble_eq_true rfl) rfl ?_
          refine U_ifge (tgt := 42) (n := 40) C dX0_isViolatedWith_37 (by decide) rfl (fun c10 => ?_) (fun c10 => ?_)
          · replace hf := (if_pos c10).symm.trans hf
            have hr := Option.some.inj hf
            subst hr
            exact U_lv [0, 1, 2, 3] rfl (J7 rfl)
          · replace hf := (if_neg c10).symm.trans hf
            refine U_iconst (n := 41) (1 : Int32) C dX0_isViolatedWith_40 kiconst_1 rfl ?_
            have hr := Option.some.inj hf
            subst hr
            have hQ := R0 _ (R8 _ rfl)
            subst hQ
            exact U_zret C dX0_isViolatedWith_41 (Or.inr rfl) (Nat.le_refl 0) (Nat.le_refl 0)
theorem rc_X0_isViolatedWith {o : Nat} {a1 : Int32} {a2 : Nat} {h : Hp} {z} (hf : f_X0_isViolatedWith o a1 a2 h = some z) : rc 0 h o = some () := by
  unfold f_X0_isViolatedWith at hf
  exact (bsome hf).choose_spec.1
set_option maxHeartbeats 2000000 in
set_option maxRecDepth 20000 in
theorem M_X0_isViolatedWith {g : GT} {o : Nat} {a1 : Int32} {a2 : Nat} {h : Hp} {r : Int32} (hf : f_X0_isViolatedWith o a1 a2 h = some r) : CM g yX0_isViolatedWith cX0_isViolatedWith 6 (some .boolean) 8 0 0 [.ref o, .int a1, .ref a2] h (.inr (some (.int r))) h := by
  refine CM_of rfl (fun _ => Nat.le_of_ble_eq_true rfl) (fun Γ C hn0 => ?_)
  have C : Cx g Γ cX0_isViolatedWith RX0 "isViolatedWith" 6 (some .boolean) 8 0 0 := C
  generalize hQ : Qe g Γ (.inr (some (.int r))) h 0 0 = Q
  show U g Γ 6 Q 0 0 0 [(0, .ref o), (1, .int a1), (2, .ref a2)] [] h
  unfold f_X0_isViolatedWith at hf
  replace hf := (bsome hf).choose_spec.2
  refine U_lconst (n := 1) (1 : Int64) C dX0_isViolatedWith_0 klconst_1 rfl ?_
  refine U_iload_n (n := 2) 1 C dX0_isViolatedWith_1 rfl rfl ?_
  refine U_lshl (n := 3) C dX0_isViolatedWith_2 rfl ?_
  refine U_lstore_n (n := 4) (lv2 := [(3, .long ((1 : Int64) <<< ((a1).toInt64 &&& 63))), (0, .ref o), (1, .int a1), (2, .ref a2)]) C dX0_isViolatedWith_3 (by decide) rfl rfl ?_
  refine U_iconst (n := 5) (0 : Int32) C dX0_isViolatedWith_4 kiconst_0 rfl ?_
  refine U_istore (n := 7) (lv2 := [(5, .int (0 : Int32)), (3, .long ((1 : Int64) <<< ((a1).toInt64 &&& 63))), (0, .ref o), (1, .int a1), (2, .ref a2)]) C dX0_isViolatedWith_5 (by decide) rfl rfl ?_
  refine U_joinR0 (U g Γ 6 Q 0 0 48 [] [] h) hf (fun hf => ?_) (fun o13 hf J11 R12 => U_lv [2, 4, 1, 0] rfl (L_X0_isViolatedWith_7 C hf J11 ?_))
  rotate_left
  · intro r hr
    have hr := (R12 r hr)
    subst hr
    exact hQ
  refine U_iconst (n := 49) (0 : Int32) C dX0_isViolatedWith_48 kiconst_0 rfl ?_
  have hr := (Option.some.inj hf)
  subst hr
  subst hQ
  exact U_zret C dX0_isViolatedWith_49 (Or.inl rfl) (Nat.le_refl 0) (Nat.le_refl 0)
def f_X0_signAt (o : Nat) (a1 : Int32) (a2 : Nat) (a3 : Nat) (h : Hp) : Option Int32 :=
  (rc 0 h o).bind fun _ =>
  (f_X0_corner o a1 (0 : Int32) h).bind fun v1 =>
  (f_X0_corner o a1 (1 : Int32) h).bind fun v2 =>
  (f_X0_corner o a1 (2 : Int32) h).bind fun v3 =>
  (aI h a2 v1).bind fun v4 =>
  if v4 = (-100 : Int32) then (
    some ((-100 : Int32))
  ) else (
    (aI h a2 v2).bind fun v6 =>
    if v6 = (-100 : Int32) then (
      some ((-100 : Int32))
    ) else (
      (aI h a2 v3).bind fun v8 =>
      if v8 = (-100 : Int32) then (
        some ((-100 : Int32))
      ) else (
        (aI h a2 v2).bind fun v10 =>
        (aI h a2 v1).bind fun v11 =>
        (aI h a3 v3).bind fun v12 =>
        (aI h a3 v1).bind fun v13 =>
        (aI h a3 v2).bind fun v14 =>
        (aI h a3 v1).bind fun v15 =>
        (aI h a2 v3).bind fun v16 =>
        (aI h a2 v1).bind fun v17 =>
        (f_J6_compare_7cf53 (((v10 - v11) * (v12 - v13)) - ((v14 - v15) * (v16 - v17))) (0 : Int32)).bind fun v18 =>
        some (v18)
      )
    )
  )
theorem rc_X0_signAt {o : Nat} {a1 : Int32} {a2 : Nat} {a3 : Nat} {h : Hp} {z} (hf : f_X0_signAt o a1 a2 a3 h = some z) : rc 0 h o = some () := by
  unfold f_X0_signAt at hf
  exact (bsome hf).choose_spec.1
set_option maxHeartbeats 2000000 in
set_option maxRecDepth 20000 in
theorem M_X0_signAt {g : GT} {o : Nat} {a1 : Int32} {a2 : Nat} {a3 : Nat} {h : Hp} {r : Int32} (hf : f_X0_signAt o a1 a2 a3 h = some r) : CM g yX0_signAt cX0_signAt 8 (some .int) 7 0 0 [.ref o, .int a1, .ref a2, .ref a3] h (.inr (some (.int r))) h := by
  refine CM_of rfl (fun _ => Nat.le_of_ble_eq_true rfl) (fun Γ C hn0 => ?_)
  have C : Cx g Γ cX0_signAt RX0 "signAt" 8 (some .int) 7 0 0 := C
  generalize hQ : Qe g Γ (.inr (some (.int r))) h 0 0 = Q
  show U g Γ 8 Q 0 0 0 [(0, .ref o), (1, .int a1), (2, .ref a2), (3, .ref a3)] [] h
  unfold f_X0_signAt at hf
  replace hf := (bsome hf).choose_spec.2
  refine U_aload_n (n := 1) 0 C dX0_signAt_0 rfl rfl rfl ?_
  refine U_iload_n (n := 2) 1 C dX0_signAt_1 rfl rfl ?_
  refine U_iconst (n := 3) (0 : Int32) C dX0_signAt_2 kiconst_0 rfl ?_
  obtain ⟨v1, ev1, hf⟩ := bsome hf
  refine cv_RX0_70 (n := 6) C dX0_signAt_3 (av := [.int a1, .int (0 : Int32)]) rfl (rc_X0_corner ev1) (M_X0_corner ev1) (Nat.le_of_ble_eq_true rfl) (Nat.zero_le _) (Nat.zero_le _) (Nat.le_of_ble_eq_true rfl) rfl ?_
  refine U_istore (n := 8) (lv2 := [(4, .int v1), (0, .ref o), (1, .int a1), (2, .ref a2), (3, .ref a3)]) C dX0_signAt_6 (by decide) rfl rfl ?_
  refine U_aload_n (n := 9) 1 C dX0_signAt_8 rfl rfl rfl ?_
  refine U_iload_n (n := 10) 2 C dX0_signAt_9 rfl rfl ?_
  refine U_iconst (n := 11) (1 : Int32) C dX0_signAt_10 kiconst_1 rfl ?_
  obtain ⟨v2, ev2, hf⟩ := bsome hf
  refine cv_RX0_70 (n := 14) C dX0_signAt_11 (av := [.int a1, .int (1 : Int32)]) rfl (rc_X0_corner ev2) (M_X0_corner ev2) (Nat.le_of_ble_eq_true rfl) (Nat.zero_le _) (Nat.zero_le _) (Nat.le_of_ble_eq_true rfl) rfl ?_
  refine U_istore (n := 16) (lv2 := [(5, .int v2), (4, .int v1), (0, .ref o), (1, .int a1), (2, .ref a2), (3, .ref a3)]) C dX0_signAt_14 (by decide) rfl rfl ?_
  refine U_aload_n (n := 17) 2 C dX0_signAt_16 rfl rfl rfl ?_
  refine U_iload_n (n := 18) 3 C dX0_signAt_17 rfl rfl ?_
  refine U_iconst (n := 19) (2 : Int32) C dX0_signAt_18 kiconst_2 rfl ?_
  obtain ⟨v3, ev3, hf⟩ := bsome hf
  refine cv_RX0_70 (n := 22) C dX0_signAt_19 (av := [.int a1, .int (2 : Int32)]) rfl (rc_X0_corner ev3) (M_X0_corner ev3) (Nat.le_of_ble_eq_true rfl) (Nat.zero_le _) (Nat.zero_le _) (Nat.le_of_ble_eq_true rfl) rfl ?_
  refine U_istore (n := 24) (lv2 := [(6, .int v3), (5, .int v2), (4, .int v1), (0, .ref o), (1, .int a1), (2, .ref a2), (3, .ref a3)]) C dX0_signAt_22 (by decide) rfl rfl ?_
  refine U_aload_n (n := 25) 5 C dX0_signAt_24 rfl rfl rfl ?_
  refine U_iload (n := 27) 2 C dX0_signAt_25 rfl rfl ?_
  refine U_iald (n := 28) C dX0_signAt_27 hf rfl (fun v4 hf => ?_)
  refine U_bipush (n := 30) (-100 : Int32) C dX0_signAt_28 kbipush_m100 rfl ?_
  refine U_iceq (tgt := 51) (n := 33) C dX0_signAt_30 (by decide) rfl (fun c5 => ?_) (fun c5 => ?_)
  · replace hf := (if_pos c5).symm.trans hf
    refine U_bipush (n := 53) (-100 : Int32) C dX0_signAt_51 kbipush_m100 rfl ?_
    have hr := (Option.some.inj hf)
    subst hr
    subst hQ
    exact U_iret C dX0_signAt_53 (Nat.le_refl 0) (Nat.le_refl 0)
  · replace hf := (if_neg c5).symm.trans hf
    refine U_aload_n (n := 34) 5 C dX0_signAt_33 rfl rfl rfl ?_
    refine U_iload (n := 36) 1 C dX0_signAt_34 rfl rfl ?_
    refine U_iald (n := 37) C dX0_signAt_36 hf rfl (fun v6 hf => ?_)
    refine U_bipush (n := 39) (-100 : Int32) C dX0_signAt_37 kbipush_m100 rfl ?_
    refine U_iceq (tgt := 51) (n := 42) C dX0_signAt_39 (by decide) rfl (fun c7 => ?_) (fun c7 => ?_)
    · replace hf := (if_pos c7).symm.trans hf
      refine U_bipush (n := 53) (-100 : Int32) C dX0_signAt_51 kbipush_m100 rfl ?_
      have hr := (Option.some.inj hf)
      subst hr
      subst hQ
      exact U_iret C dX0_signAt_53 (Nat.le_refl 0) (Nat.le_refl 0)
    · replace hf := (if_neg c7).symm.trans hf
      refine U_aload_n (n := 43) 5 C dX0_signAt_42 rfl rfl rfl ?_
      refine U_iload (n := 45) 0 C dX0_signAt_43 rfl rfl ?_
      refine U_iald (n := 46) C dX0_signAt_45 hf rfl (fun v8 hf => ?_)
      refine U_bipush (n := 48) (-100 : Int32) C dX0_signAt_46 kbipush_m100 rfl ?_
      refine U_icne (tgt := 54) (n := 51) C dX0_signAt_48 (by decide) rfl (fun c9 => ?_) (fun c9 => ?_)
      · replace hf := (if_pos c9).symm.trans hf
        refine U_bipush (n := 53) (-100 : Int32) C dX0_signAt_51 kbipush_m100 rfl ?_
        have hr := (Option.some.inj hf)
        subst hr
        subst hQ
        exact U_iret C dX0_signAt_53 (Nat.le_refl 0) (Nat.le_refl 0)
      · replace hf := (if_neg c9).symm.trans hf
        refine U_aload_n (n := 55) 5 C dX0_signAt_54 rfl rfl rfl ?_
        refine U_iload (n := 57) 1 C dX0_signAt_55 rfl rfl ?_
        refine U_iald (n := 58) C dX0_signAt_57 hf rfl (fun v10 hf => ?_)
        refine U_aload_n (n := 59) 5 C dX0_signAt_58 rfl rfl rfl ?_
        refine U_iload (n := 61) 2 C dX0_signAt_59 rfl rfl ?_
        refine U_iald (n := 62) C dX0_signAt_61 hf rfl (fun v11 hf => ?_)
        refine U_isub (n := 63) C dX0_signAt_62 rfl ?_
        refine U_aload_n (n := 64) 6 C dX0_signAt_63 rfl rfl rfl ?_
        refine U_iload (n := 66) 0 C dX0_signAt_64 rfl rfl ?_
        refine U_iald (n := 67) C dX0_signAt_66 hf rfl (fun v12 hf => ?_)
        refine U_aload_n (n := 68) 6 C dX0_signAt_67 rfl rfl rfl ?_
        refine U_iload (n := 70) 2 C dX0_signAt_68 rfl rfl ?_
        refine U_iald (n := 71) C dX0_signAt_70 hf rfl (fun v13 hf => ?_)
        refine U_isub (n := 72) C dX0_signAt_71 rfl ?_
        refine U_imul (n := 73) C dX0_signAt_72 rfl ?_
        refine U_aload_n (n := 74) 6 C dX0_signAt_73 rfl rfl rfl ?_
        refine U_iload (n := 76) 1 C dX0_signAt_74 rfl rfl ?_
        refine U_iald (n := 77) C dX0_signAt_76 hf rfl (fun v14 hf => ?_)
        refine U_aload_n (n := 78) 6 C dX0_signAt_77 rfl rfl rfl ?_
        refine U_iload (n := 80) 2 C dX0_signAt_78 rfl rfl ?_
        refine U_iald (n := 81) C dX0_signAt_80 hf rfl (fun v15 hf => ?_)
        refine U_isub (n := 82) C dX0_signAt_81 rfl ?_
        refine U_aload_n (n := 83) 5 C dX0_signAt_82 rfl rfl rfl ?_
        refine U_iload (n := 85) 0 C dX0_signAt_83 rfl rfl ?_
        refine U_iald (n := 86) C dX0_signAt_85 hf rfl (fun v16 hf => ?_)
        refine U_aload_n (n := 87) 5 C dX0_signAt_86 rfl rfl rfl ?_
        refine U_iload (n := 89) 2 C dX0_signAt_87 rfl rfl ?_
        refine U_iald (n := 90) C dX0_signAt_89 hf rfl (fun v17 hf => ?_)
        refine U_isub (n := 91) C dX0_signAt_90 rfl ?_
        refine U_imul (n := 92) C dX0_signAt_91 rfl ?_
        refine U_isub (n := 93) C dX0_signAt_92 rfl ?_
        refine U_istore (n := 95) (lv2 := [(7, .int (((v10 - v11) * (v12 - v13)) - ((v14 - v15) * (v16 - v17)))), (6, .int v3), (5, .int v2), (4, .int v1), (0, .ref o), (1, .int a1), (2, .ref a2), (3, .ref a3)]) C dX0_signAt_93 (by decide) rfl rfl ?_
        refine U_iload (n := 97) 0 C dX0_signAt_95 rfl rfl ?_
        refine U_iconst (n := 98) (0 : Int32) C dX0_signAt_97 kiconst_0 rfl ?_
        obtain ⟨v18, ev18, hf⟩ := bsome hf
        refine cv_RX0_84 (n := 101) C dX0_signAt_98 (av := [.int (((v10 - v11) * (v12 - v13)) - ((v14 - v15) * (v16 - v17))), .int (0 : Int32)]) rfl (M_J6_compare_7cf53 ev18) (Nat.le_of_ble_eq_true rfl) (Nat.zero_le _) (Nat.zero_le _) (Nat.le_of_ble_eq_true rfl) rfl ?_
        have hr := (Option.some.inj hf)
        subst hr
        subst hQ
        exact U_iret C dX0_signAt_101 (Nat.le_refl 0) (Nat.le_refl 0)
