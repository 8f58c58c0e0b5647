def f_X4_puts (o : Nat) (a1 : Int32) (a2 : Int32) (a3 : Int32) (h : Hp) : Option Hp :=
  (rc 4 h o).bind fun _ =>
  (fR 4 0 h o).bind fun v1 =>
  (wI h v1 (((3 : Int32) + ((4 : Int32) * a1)) + a2) a3).bind fun h2 =>
  some (h2)
theorem rc_X4_puts {o : Nat} {a1 : Int32} {a2 : Int32} {a3 : Int32} {h : Hp} {z} (hf : f_X4_puts o a1 a2 a3 h = some z) : rc 4 h o = some () := by
  unfold f_X4_puts at hf
  exact (bsome hf).choose_spec.1
set_option maxHeartbeats 2000000 in
set_option maxRecDepth 20000 in
theorem M_X4_puts {g : GT} {o : Nat} {a1 : Int32} {a2 : Int32} {a3 : Int32} {h : Hp} {h2 : Hp} (hf : f_X4_puts o a1 a2 a3 h = some h2) : CM g yX4_puts cX4_puts 4 none 6 0 0 [.ref o, .int a1, .int a2, .int a3] h (.inr none) h2 := by
  refine CM_of rfl (fun _ => Nat.le_of_ble_eq_true rfl) (fun Γ C hn0 => ?_)
  have C : Cx g Γ cX4_puts RX4 "puts" 4 none 6 0 0 := C
  generalize hQ : Qe g Γ (.inr none) h2 0 0 = Q
  show U g Γ 4 Q 0 0 0 [(0, .ref o), (1, .int a1), (2, .int a2), (3, .int a3)] [] h
  unfold f_X4_puts at hf
  replace hf := (bsome hf).choose_spec.2
  refine U_aload_n (n := 1) 0 C dX4_puts_0 rfl rfl rfl ?_
  refine gf_RX4_7 (n := 4) C dX4_puts_1 hf rfl (fun v1 hf => ?_)
  refine U_iconst (n := 5) (3 : Int32) C dX4_puts_4 kiconst_3 rfl ?_
  refine U_iconst (n := 6) (4 : Int32) C dX4_puts_5 kiconst_4 rfl ?_
  refine U_iload_n (n := 7) 1 C dX4_puts_6 rfl rfl ?_
  refine U_imul (n := 8) C dX4_puts_7 rfl ?_
  refine U_iadd (n := 9) C dX4_puts_8 rfl ?_
  refine U_iload_n (n := 10) 2 C dX4_puts_9 rfl rfl ?_
  refine U_iadd (n := 11) C dX4_puts_10 rfl ?_
  refine U_iload_n (n := 12) 3 C dX4_puts_11 rfl rfl ?_
  refine U_iast (n := 13) C dX4_puts_12 hf rfl (fun h2 hf => ?_)
  have hr := (Option.some.inj hf)
  subst hr
  subst hQ
  exact U_vret C dX4_puts_13 (Nat.le_refl 0) (Nat.le_refl 0)
def f_X4_clears (o : Nat) (a1 : Int32) (h : Hp) : Option Hp :=
  (rc 4 h o).bind fun _ =>
  (f_X4_puts o a1 (0 : Int32) (-100 : Int32) h).bind fun h2 =>
  (f_X4_puts o a1 (1 : Int32) (0 : Int32) h2).bind fun h4 =>
  (f_X4_puts o a1 (2 : Int32) (-100 : Int32) h4).bind fun h6 =>
  (f_X4_puts o a1 (3 : Int32) (-100 : Int32) h6).bind fun h8 =>
  some (h8)
theorem rc_X4_clears {o : Nat} {a1 : Int32} {h : Hp} {z} (hf : f_X4_clears o a1 h = some z) : rc 4 h o = some () := by
  unfold f_X4_clears at hf
  exact (bsome hf).choose_spec.1
set_option maxHeartbeats 2000000 in
set_option maxRecDepth 20000 in
theorem M_X4_clears {g : GT} {o : Nat} {a1 : Int32} {h : Hp} {h2 : Hp} (hf : f_X4_clears o a1 h = some h2) : CM g yX4_clears cX4_clears 2 none 7 0 0 [.ref o, .int a1] h (.inr none) h2 := by
  refine CM_of rfl (fun _ => Nat.le_of_ble_eq_true rfl) (fun Γ C hn0 => ?_)
  have C : Cx g Γ cX4_clears RX4 "clears" 2 none 7 0 0 := C
  generalize hQ : Qe g Γ (.inr none) h2 0 0 = Q
  show U g Γ 2 Q 0 0 0 [(0, .ref o), (1, .int a1)] [] h
  unfold f_X4_clears at hf
  replace hf := (bsome hf).choose_spec.2
  refine U_aload_n (n := 1) 0 C dX4_clears_0 rfl rfl rfl ?_
  refine U_iload_n (n := 2) 1 C dX4_clears_1 rfl rfl ?_
  refine U_iconst (n := 3) (0 : Int32) C dX4_clears_2 kiconst_0 rfl ?_
  refine U_bipush (n := 5) (-100 : Int32) C dX4_clears_3 kbipush_m100 rfl ?_
  obtain ⟨h2, ev1, hf⟩ := bsome hf
  refine cv_RX4_87 (n := 8) C dX4_clears_5 (av := [.int a1, .int (0 : Int32), .int (-100 : Int32)]) rfl (rc_X4_puts ev1) (M_X4_puts ev1) (Nat.le_of_ble_eq_true rfl) (Nat.zero_le _) (Nat.zero_le _) (Nat.le_of_ble_eq_true rfl) rfl ?_
  refine U_aload_n (n := 9) 0 C dX4_clears_8 rfl rfl rfl ?_
  refine U_iload_n (n := 10) 1 C dX4_clears_9 rfl rfl ?_
  refine U_iconst (n := 11) (1 : Int32) C dX4_clears_10 kiconst_1 rfl ?_
  refine U_iconst (n := 12) (0 : Int32) C dX4_clears_11 kiconst_0 rfl ?_
  obtain ⟨h4, ev3, hf⟩ := bsome hf
  refine cv_RX4_87 (n := 15) C dX4_clears_12 (av := [.int a1, .int (1 : Int32), .int (0 : Int32)]) rfl (rc_X4_puts ev3) (M_X4_puts ev3) (Nat.le_of_ble_eq_true rfl) (Nat.zero_le _) (Nat.zero_le _) (Nat.le_of_ble_eq_true rfl) rfl ?_
  refine U_aload_n (n := 16) 0 C dX4_clears_15 rfl rfl rfl ?_
  refine U_iload_n (n := 17) 1 C dX4_clears_16 rfl rfl ?_
  refine U_iconst (n := 18) (2 : Int32) C dX4_clears_17 kiconst_2 rfl ?_
  refine U_bipush (n := 20) (-100 : Int32) C dX4_clears_18 kbipush_m100 rfl ?_
  obtain ⟨h6, ev5, hf⟩ := bsome hf
  refine cv_RX4_87 (n := 23) C dX4_clears_20 (av := [.int a1, .int (2 : Int32), .int (-100 : Int32)]) rfl (rc_X4_puts ev5) (M_X4_puts ev5) (Nat.le_of_ble_eq_true rfl) (Nat.zero_le _) (Nat.zero_le _) (Nat.le_of_ble_eq_true rfl) rfl ?_
  refine U_aload_n (n := 24) 0 C dX4_clears_23 rfl rfl rfl ?_
  refine U_iload_n (n := 25) 1 C dX4_clears_24 rfl rfl ?_
  refine U_iconst (n := 26) (3 : Int32) C dX4_clears_25 kiconst_3 rfl ?_
  refine U_bipush (n := 28) (-100 : Int32) C dX4_clears_26 kbipush_m100 rfl ?_
  obtain ⟨h8, ev7, hf⟩ := bsome hf
  refine cv_RX4_87 (n := 31) C dX4_clears_28 (av := [.int a1, .int (3 : Int32), .int (-100 : Int32)]) rfl (rc_X4_puts ev7) (M_X4_puts ev7) (Nat.le_of_ble_eq_true rfl) (Nat.zero_le _) (Nat.zero_le _) (Nat.le_of_ble_eq_true rfl) rfl ?_
  have hr := (Option.some.inj hf)
  subst hr
  subst hQ
  exact U_vret C dX4_clears_31 (Nat.le_refl 0) (Nat.le_refl 0)
def l_X4_laysFrom_47 (p0 : Nat) (p1 : Int32) (p2 : Int32) (p3 : Int32) (p4 : Int32) (p5 : Int32) : Nat → Int32 → Hp → Option Hp
  | 0, _, _ => none
  | fuel + 1, x6, h =>
    if p3 ≤ x6 then (
      some h
    ) else (
      if p1 = p5 then (
        some h
      ) else (
        (
          if p1 = x6 then (
            some h
          ) else (
            (fR 4 10 h p0).bind fun v14 =>
            (fI 4 11 h p0).bind fun v15 =>
            (wI h v14 ((5 : Int32) * v15) p1).bind fun h16 =>
            (fR 4 10 h16 p0).bind fun v17 =>
            (fI 4 11 h16 p0).bind fun v18 =>
            (wI h16 v17 (((5 : Int32) * v18) + (1 : Int32)) p2).bind fun h19 =>
            (fR 4 10 h19 p0).bind fun v20 =>
            (fI 4 11 h19 p0).bind fun v21 =>
            (wI h19 v20 (((5 : Int32) * v21) + (2 : Int32)) p4).bind fun h22 =>
            (fR 4 10 h22 p0).bind fun v23 =>
            (fI 4 11 h22 p0).bind fun v24 =>
            (wI h22 v23 (((5 : Int32) * v24) + (3 : Int32)) p5).bind fun h25 =>
            (fR 4 10 h25 p0).bind fun v26 =>
            (fI 4 11 h25 p0).bind fun v27 =>
            (wI h25 v26 (((5 : Int32) * v27) + (4 : Int32)) x6).bind fun h28 =>
            (fI 4 11 h28 p0).bind fun v29 =>
            (sF 4 11 (.int (v29 + (1 : Int32))) h28 p0).bind fun h30 =>
            some h30
          )
        ).bind fun h10 =>
        l_X4_laysFrom_47 p0 p1 p2 p3 p4 p5 fuel (x6 + 1) h10
      )
    )
def l_X4_laysFrom_29 (p0 : Nat) (p1 : Int32) (p2 : Int32) (p3 : Int32) (p4 : Int32) : Nat → Int32 → Hp → Option Hp
  | 0, _, _ => none
  | fuel + 1, x5, h =>
    if p3 ≤ x5 then (
      some h
    ) else (
      if p1 = p4 then (
        some h
      ) else (
        (l_X4_laysFrom_47 p0 p1 p2 p3 p4 x5 FU (x5 + (1 : Int32)) h).bind fun h31 =>
        l_X4_laysFrom_29 p0 p1 p2 p3 p4 fuel (x5 + 1) h31
      )
    )
def l_X4_laysFrom_12 (p0 : Nat) (p1 : Int32) (p2 : Int32) (p3 : Int32) : Nat → Int32 → Hp → Option Hp
  | 0, _, _ => none
  | fuel + 1, x4, h =>
    if p3 ≤ x4 then (
      some h
    ) else (
      if p1 = p2 then (
        some h
      ) else (
        (l_X4_laysFrom_29 p0 p1 p2 p3 x4 FU (x4 + (1 : Int32)) h).bind fun h32 =>
        l_X4_laysFrom_12 p0 p1 p2 p3 fuel (x4 + 1) h32
      )
    )
def f_X4_laysFrom (o : Nat) (a1 : Int32) (a2 : Int32) (h : Hp) : Option Hp :=
  (rc 4 h o).bind fun _ =>
  (fR 4 0 h o).bind fun v1 =>
  (aI h v1 (0 : Int32)).bind fun v2 =>
  (l_X4_laysFrom_12 o a1 a2 v2 FU (a2 + (1 : Int32)) h).bind fun h33 =>
  some (h33)
set_option maxHeartbeats 2000000 in
set_option maxRecDepth 20000 in
theorem L_X4_laysFrom_47 {g : GT} {Γ : CT} {Q : State → Prop} {mc ms : Nat} (C : Cx g Γ cX4_laysFrom RX4 "laysFrom" 7 none 6 mc ms) {p0 : Nat} {p1 : Int32} {p2 : Int32} {p3 : Int32} {p4 : Int32} {p5 : Int32} : ∀ {fuel : Nat} {x6 : Int32} {h : Hp} {hy : Hp}, l_X4_laysFrom_47 p0 p1 p2 p3 p4 p5 fuel x6 h = some hy → U g Γ 7 Q 0 0 152 [(0, .ref p0), (1, .int p1), (2, .int p2), (3, .int p3), (4, .int p4), (5, .int p5)] [] hy → U g Γ 7 Q 0 0 47 [(0, .ref p0), (1, .int p1), (2, .int p2), (3, .int p3), (4, .int p4), (5, .int p5), (6, .int x6)] [] h := by
  intro fuel
  induction fuel with
  | zero =>
    intro x6 h hy hf J0
    simp only [l_X4_laysFrom_47, reduceCtorEq] at hf
  | succ fuel ih =>
    intro x6 h hy hf J0
    rw [l_X4_laysFrom_47] at hf
    refine U_iload (n := 49) 6 C dX4_laysFrom_47 rfl rfl ?_
    refine U_iload_n (n := 50) 3 C dX4_laysFrom_49 rfl rfl ?_
    refine U_icge (tgt := 152) (n := 53) C dX4_laysFrom_50 (by decide) rfl (fun c7 => ?_) (fun c7 => ?_)
    · replace hf := (if_pos c7).symm.trans hf
      have hr := Option.some.inj hf
      subst hr
      exact U_lv [0, 1, 2, 3, 4, 5] rfl J0
    · replace hf := (if_neg c7).symm.trans hf
      refine U_iload_n (n := 54) 1 C dX4_laysFrom_53 rfl rfl ?_
      refine U_iload (n := 56) 5 C dX4_laysFrom_54 rfl rfl ?_
      refine U_iceq (tgt := 152) (n := 59) C dX4_laysFrom_56 (by decide) rfl (fun c8 => ?_) (fun c8 => ?_)
      · replace hf := (if_pos c8).symm.trans hf
        have hr := Option.some.inj hf
        subst hr
        exact U_lv [0, 1, 2, 3, 4, 5] rfl J0
      · replace hf := (if_neg c8).symm.trans hf
        refine U_iload_n (n := 60) 1 C dX4_laysFrom_59 rfl rfl ?_
        refine U_iload (n := 62) 6 C dX4_laysFrom_60 rfl rfl ?_
        refine U_join1 (fun h10 => U g Γ 7 Q 0 0 146 [(0, .ref p0), (1, .int p1), (2, .int p2), (3, .int p3), (4, .int p4), (5, .int p5), (6, .int x6)] [] h10) hf (fun h10 hf => ?_) (fun h10 hf J12 => ?_)
        · skip
          refine U_iinc (n := 149) (v := (x6 + 1)) (lv2 := [(6, .int (x6 + 1)), (0, .ref p0), (1, .int p1), (2, .int p2), (3, .int p3), (4, .int p4), (5, .int p5)]) 6 C dX4_laysFrom_146 rfl rfl (by decide) rfl rfl ?_
          refine U_goto (n := 0) (tgt := 47) C dX4_laysFrom_149 (by decide) ?_
          exact U_lv [1, 2, 3, 4, 5, 6, 0] rfl (ih hf J0)
        · skip
          refine U_iceq (tgt := 146) (n := 65) C dX4_laysFrom_62 (by decide) rfl (fun c9 => ?_) (fun c9 => ?_)
          · replace hf := (if_pos c9).symm.trans hf
            have hr := Option.some.inj hf
            subst hr
            exact U_lv [0, 1, 2, 3, 4, 5, 6] rfl J12
          · replace hf := (if_neg c9).symm.trans hf
            refine U_aload_n (n := 66) 0 C dX4_laysFrom_65 rfl rfl rfl ?_
            refine gf_RX4_28 (n := 69) C dX4_laysFrom_66 hf rfl (fun v14 hf => ?_)
            refine U_iconst (n := 70) (5 : Int32) C dX4_laysFrom_69 kiconst_5 rfl ?_
            refine U_aload_n (n := 71) 0 C dX4_laysFrom_70 rfl rfl rfl ?_
            refine gf_RX4_74 (n := 74) C dX4_laysFrom_71 hf rfl (fun v15 hf => ?_)
            refine U_imul (n := 75) C dX4_laysFrom_74 rfl ?_
            refine U_iload_n (n := 76) 1 C dX4_laysFrom_75 rfl rfl ?_
            refine U_iast (n := 77) C dX4_laysFrom_76 hf rfl (fun h16 hf => ?_)
            refine U_aload_n (n := 78) 0 C dX4_laysFrom_77 rfl rfl rfl ?_
            refine gf_RX4_28 (n := 81) C dX4_laysFrom_78 hf rfl (fun v17 hf => ?_)
            refine U_iconst (n := 82) (5 : Int32) C dX4_laysFrom_81 kiconst_5 rfl ?_
            refine U_aload_n (n := 83) 0 C dX4_laysFrom_82 rfl rfl rfl ?_
            refine gf_RX4_74 (n := 86) C dX4_laysFrom_83 hf rfl (fun v18 hf => ?_)
            refine U_imul (n := 87) C dX4_laysFrom_86 rfl ?_
            refine U_iconst (n := 88) (1 : Int32) C dX4_laysFrom_87 kiconst_1 rfl ?_
            refine U_iadd (n := 89) C dX4_laysFrom_88 rfl ?_
            refine U_iload_n (n := 90) 2 C dX4_laysFrom_89 rfl rfl ?_
            refine U_iast (n := 91) C dX4_laysFrom_90 hf rfl (fun h19 hf => ?_)
            refine U_aload_n (n := 92) 0 C dX4_laysFrom_91 rfl rfl rfl ?_
            refine gf_RX4_28 (n := 95) C dX4_laysFrom_92 hf rfl (fun v20 hf => ?_)
            refine U_iconst (n := 96) (5 : Int32) C dX4_laysFrom_95 kiconst_5 rfl ?_
            refine U_aload_n (n := 97) 0 C dX4_laysFrom_96 rfl rfl rfl ?_
            refine gf_RX4_74 (n := 100) C dX4_laysFrom_97 hf rfl (fun v21 hf => ?_)
            refine U_imul (n := 101) C dX4_laysFrom_100 rfl ?_
            refine U_iconst (n := 102) (2 : Int32) C dX4_laysFrom_101 kiconst_2 rfl ?_
            refine U_iadd (n := 103) C dX4_laysFrom_102 rfl ?_
            refine U_iload (n := 105) 4 C dX4_laysFrom_103 rfl rfl ?_
            refine U_iast (n := 106) C dX4_laysFrom_105 hf rfl (fun h22 hf => ?_)
            refine U_aload_n (n := 107) 0 C dX4_laysFrom_106 rfl rfl rfl ?_
            refine gf_RX4_28 (n := 110) C dX4_laysFrom_107 hf rfl (fun v23 hf => ?_)
            refine U_iconst (n := 111) (5 : Int32) C dX4_laysFrom_110 kiconst_5 rfl ?_
            refine U_aload_n (n := 112) 0 C dX4_laysFrom_111 rfl rfl rfl ?_
            refine gf_RX4_74 (n := 115) C dX4_laysFrom_112 hf rfl (fun v24 hf => ?_)
            refine U_imul (n := 116) C dX4_laysFrom_115 rfl ?_
            refine U_iconst (n := 117) (3 : Int32) C dX4_laysFrom_116 kiconst_3 rfl ?_
            refine U_iadd (n := 118) C dX4_laysFrom_117 rfl ?_
            refine U_iload (n := 120) 5 C dX4_laysFrom_118 rfl rfl ?_
            refine U_iast (n := 121) C dX4_laysFrom_120 hf rfl (fun h25 hf => ?_)
            refine U_aload_n (n := 122) 0 C dX4_laysFrom_121 rfl rfl rfl ?_
            refine gf_RX4_28 (n := 125) C dX4_laysFrom_122 hf rfl (fun v26 hf => ?_)
            refine U_iconst (n := 126) (5 : Int32) C dX4_laysFrom_125 kiconst_5 rfl ?_
            refine U_aload_n (n := 127) 0 C dX4_laysFrom_126 rfl rfl rfl ?_
            refine gf_RX4_74 (n := 130) C dX4_laysFrom_127 hf rfl (fun v27 hf => ?_)
            refine U_imul (n := 131) C dX4_laysFrom_130 rfl ?_
            refine U_iconst (n := 132) (4 : Int32) C dX4_laysFrom_131 kiconst_4 rfl ?_
            refine U_iadd (n := 133) C dX4_laysFrom_132 rfl ?_
            refine U_iload (n := 135) 6 C dX4_laysFrom_133 rfl rfl ?_
            refine U_iast (n := 136) C dX4_laysFrom_135 hf rfl (fun h28 hf => ?_)
            refine U_aload_n (n := 137) 0 C dX4_laysFrom_136 rfl rfl rfl ?_
            refine U_dup (n := 138) C dX4_laysFrom_137 rfl rfl ?_
            refine gf_RX4_74 (n := 141) C dX4_laysFrom_138 hf rfl (fun v29 hf => ?_)
            refine U_iconst (n := 142) (1 : Int32) C dX4_laysFrom_141 kiconst_1 rfl ?_
            refine U_iadd (n := 143) C dX4_laysFrom_142 rfl ?_
            refine pf_RX4_74 (n := 146) C dX4_laysFrom_143 hf rfl (fun h30 hf => ?_)
            have hr := Option.some.inj hf
            subst hr
            exact U_lv [0, 1, 2, 3, 4, 5, 6] rfl J12
set_option maxHeartbeats 2000000 in
set_option maxRecDepth 20000 in
theorem L_X4_laysFrom_29 {g : GT} {Γ : CT} {Q : State → Prop} {mc ms : Nat} (C : Cx g Γ cX4_laysFrom RX4 "laysFrom" 7 none 6 mc ms) {p0 : Nat} {p1 : Int32} {p2 : Int32} {p3 : Int32} {p4 : Int32} : ∀ {fuel : Nat} {x5 : Int32} {h : Hp} {hy : Hp}, l_X4_laysFrom_29 p0 p1 p2 p3 p4 fuel x5 h = some hy → U g Γ 7 Q 0 0 158 [(0, .ref p0), (1, .int p1), (2, .int p2), (3, .int p3), (4, .int p4)] [] hy → U g Γ 7 Q 0 0 29 [(0, .ref p0), (1, .int p1), (2, .int p2), (3, .int p3), (4, .int p4), (5, .int x5)] [] h := by
  intro fuel
  induction fuel with
  | zero =>
    intro x5 h hy hf J0
    simp only [l_X4_laysFrom_29, reduceCtorEq] at hf
  | succ fuel ih =>
    intro x5 h hy hf J0
    rw [l_X4_laysFrom_29] at hf
    refine U_iload (n := 31) 5 C dX4_laysFrom_29 rfl rfl ?_
    refine U_iload_n (n := 32) 3 C dX4_laysFrom_31 rfl rfl ?_
    refine U_icge (tgt := 158) (n := 35) C dX4_laysFrom_32 (by decide) rfl (fun c5 => ?_) (fun c5 => ?_)
    · replace hf := (if_pos c5).symm.trans hf
      have hr := Option.some.inj hf
      subst hr
      exact U_lv [0, 1, 2, 3, 4] rfl J0
    · replace hf := (if_neg c5).symm.trans hf
      refine U_iload_n (n := 36) 1 C dX4_laysFrom_35 rfl rfl ?_
      refine U_iload (n := 38) 4 C dX4_laysFrom_36 rfl rfl ?_
      refine U_iceq (tgt := 158) (n := 41) C dX4_laysFrom_38 (by decide) rfl (fun c6 => ?_) (fun c6 => ?_)
      · replace hf := (if_pos c6).symm.trans hf
        have hr := Option.some.inj hf
        subst hr
        exact U_lv [0, 1, 2, 3, 4] rfl J0
      · replace hf := (if_neg c6).symm.trans hf
        refine U_iload (n := 43) 5 C dX4_laysFrom_41 rfl rfl ?_
        refine U_iconst (n := 44) (1 : Int32) C dX4_laysFrom_43 kiconst_1 rfl ?_
        refine U_iadd (n := 45) C dX4_laysFrom_44 rfl ?_
        refine U_istore (n := 47) (lv2 := [(6, .int (x5 + (1 : Int32))), (0, .ref p0), (1, .int p1), (2, .int p2), (3, .int p3), (4, .int p4), (5, .int x5)]) C dX4_laysFrom_45 (by decide) rfl rfl ?_
        refine U_join1 (fun h31 => U g Γ 7 Q 0 0 152 [(0, .ref p0), (1, .int p1), (2, .int p2), (3, .int p3), (4, .int p4), (5, .int x5)] [] h31) hf (fun h31 hf => ?_) (fun h31 hf J => U_lv [1, 2, 3, 4, 5, 6, 0] rfl (L_X4_laysFrom_47 C hf J))
        refine U_iinc (n := 155) (v := (x5 + 1)) (lv2 := [(5, .int (x5 + 1)), (0, .ref p0), (1, .int p1), (2, .int p2), (3, .int p3), (4, .int p4)]) 5 C dX4_laysFrom_152 rfl rfl (by decide) rfl rfl ?_
        refine U_goto (n := 0) (tgt := 29) C dX4_laysFrom_155 (by decide) ?_
        exact U_lv [1, 2, 3, 4, 5, 0] rfl (ih hf J0)
set_option maxHeartbeats 2000000 in
set_option maxRecDepth 20000 in
theorem L_X4_laysFrom_12 {g : GT} {Γ : CT} {Q : State → Prop} {mc ms : Nat} (C : Cx g Γ cX4_laysFrom RX4 "laysFrom" 7 none 6 mc ms) {p0 : Nat} {p1 : Int32} {p2 : Int32} {p3 : Int32} : ∀ {fuel : Nat} {x4 : Int32} {h : Hp} {hy : Hp}, l_X4_laysFrom_12 p0 p1 p2 p3 fuel x4 h = some hy → U g Γ 7 Q 0 0 164 [] [] hy → U g Γ 7 Q 0 0 12 [(0, .ref p0), (1, .int p1), (2, .int p2), (3, .int p3), (4, .int x4)] [] h := by
  intro fuel
  induction fuel with
  | zero =>
    intro x4 h hy hf J0
    simp only [l_X4_laysFrom_12, reduceCtorEq] at hf
  | succ fuel ih =>
    intro x4 h hy hf J0
    rw [l_X4_laysFrom_12] at hf
    refine U_iload (n := 14) 4 C dX4_laysFrom_12 rfl rfl ?_
    refine U_iload_n (n := 15) 3 C dX4_laysFrom_14 rfl rfl ?_
    refine U_icge (tgt := 164) (n := 18) C dX4_laysFrom_15 (by decide) rfl (fun c3 => ?_) (fun c3 => ?_)
    · replace hf := (if_pos c3).symm.trans hf
      have hr := Option.some.inj hf
      subst hr
      exact U_lv [] rfl J0
    · replace hf := (if_neg c3).symm.trans hf
      refine U_iload_n (n := 19) 1 C dX4_laysFrom_18 rfl rfl ?_
      refine U_iload_n (n := 20) 2 C dX4_laysFrom_19 rfl rfl ?_
      refine U_iceq (tgt := 164) (n := 23) C dX4_laysFrom_20 (by decide) rfl (fun c4 => ?_) (fun c4 => ?_)
      · replace hf := (if_pos c4).symm.trans hf
        have hr := Option.some.inj hf
        subst hr
        exact U_lv [] rfl J0
      · replace hf := (if_neg c4).symm.trans hf
        refine U_iload (n := 25) 4 C dX4_laysFrom_23 rfl rfl ?_
        refine U_iconst (n := 26) (1 : Int32) C dX4_laysFrom_25 kiconst_1 rfl ?_
        refine U_iadd (n := 27) C dX4_laysFrom_26 rfl ?_
        refine U_istore (n := 29) (lv2 := [(5, .int (x4 + (1 : Int32))), (0, .ref p0), (1, .int p1), (2, .int p2), (3, .int p3), (4, .int x4)]) C dX4_laysFrom_27 (by decide) rfl rfl ?_
        refine U_join1 (fun h32 => U g Γ 7 Q 0 0 158 [(0, .ref p0), (1, .int p1), (2, .int p2), (3, .int p3), (4, .int x4)] [] h32) hf (fun h32 hf => ?_) (fun h32 hf J => U_lv [1, 2, 3, 4, 5, 0] rfl (L_X4_laysFrom_29 C hf J))
        refine U_iinc (n := 161) (v := (x4 + 1)) (lv2 := [(4, .int (x4 + 1)), (0, .ref p0), (1, .int p1), (2, .int p2), (3, .int p3)]) 4 C dX4_laysFrom_158 rfl rfl (by decide) rfl rfl ?_
        refine U_goto (n := 0) (tgt := 12) C dX4_laysFrom_161 (by decide) ?_
        exact U_lv [1, 2, 3, 4, 0] rfl (ih hf J0)
theorem rc_X4_laysFrom {o : Nat} {a1 : Int32} {a2 : Int32} {h : Hp} {z} (hf : f_X4_laysFrom o a1 a2 h = some z) : rc 4 h o = some () := by
  unfold f_X4_laysFrom at hf
  exact (bsome hf).choose_spec.1
set_option maxHeartbeats 2000000 in
set_option maxRecDepth 20000 in
theorem M_X4_laysFrom {g : GT} {o : Nat} {a1 : Int32} {a2 : Int32} {h : Hp} {h2 : Hp} (hf : f_X4_laysFrom o a1 a2 h = some h2) : CM g yX4_laysFrom cX4_laysFrom 7 none 6 0 0 [.ref o, .int a1, .int a2] h (.inr none) h2 := by
  refine CM_of rfl (fun _ => Nat.le_of_ble_eq_true rfl) (fun Γ C hn0 => ?_)
  have C : Cx g Γ cX4_laysFrom RX4 "laysFrom" 7 none 6 0 0 := C
  generalize hQ : Qe g Γ (.inr none) h2 0 0 = Q
  show U g Γ 7 Q 0 0 0 [(0, .ref o), (1, .int a1), (2, .int a2)] [] h
  unfold f_X4_laysFrom at hf
  replace hf := (bsome hf).choose_spec.2
  refine U_aload_n (n := 1) 0 C dX4_laysFrom_0 rfl rfl rfl ?_
  refine gf_RX4_7 (n := 4) C dX4_laysFrom_1 hf rfl (fun v1 hf => ?_)
  refine U_iconst (n := 5) (0 : Int32) C dX4_laysFrom_4 kiconst_0 rfl ?_
  refine U_iald (n := 6) C dX4_laysFrom_5 hf rfl (fun v2 hf => ?_)
  refine U_istore_n (n := 7) (lv2 := [(3, .int v2), (0, .ref o), (1, .int a1), (2, .int a2)]) C dX4_laysFrom_6 (by decide) rfl rfl ?_
  refine U_iload_n (n := 8) 3 C dX4_laysFrom_7 rfl rfl ?_
  refine U_iconst (n := 9) (1 : Int32) C dX4_laysFrom_8 kiconst_1 rfl ?_
  refine U_iadd (n := 10) C dX4_laysFrom_9 rfl ?_
  refine U_istore (n := 12) (lv2 := [(4, .int (a2 + (1 : Int32))), (3, .int v2), (0, .ref o), (1, .int a1), (2, .int a2)]) C dX4_laysFrom_10 (by decide) rfl rfl ?_
  refine U_join1 (fun h33 => U g Γ 7 Q 0 0 164 [] [] h33) hf (fun h33 hf => ?_) (fun h33 hf J => U_lv [2, 3, 4, 1, 0] rfl (L_X4_laysFrom_12 C hf J))
  have hr := (Option.some.inj hf)
  subst hr
  subst hQ
  exact U_vret C dX4_laysFrom_164 (Nat.le_refl 0) (Nat.le_refl 0)
def l_X4_lays_33 (p0 : Nat) (p1 : Int32) (p2 : Int32) (p3 : Int32) : Nat → Int32 → Hp → Option Hp
  | 0, _, _ => none
  | fuel + 1, x4, h =>
    if p1 ≤ x4 then (
      some h
    ) else (
      (fR 4 7 h p0).bind fun v7 =>
      (fI 4 9 h p0).bind fun v8 =>
      (wI h v7 ((3 : Int32) * v8) p2).bind fun h9 =>
      (fR 4 7 h9 p0).bind fun v10 =>
      (fI 4 9 h9 p0).bind fun v11 =>
      (wI h9 v10 (((3 : Int32) * v11) + (1 : Int32)) p3).bind fun h12 =>
      (fR 4 7 h12 p0).bind fun v13 =>
      (fI 4 9 h12 p0).bind fun v14 =>
      (wI h12 v13 (((3 : Int32) * v14) + (2 : Int32)) x4).bind fun h15 =>
      (fR 4 8 h15 p0).bind fun v16 =>
      (fI 4 9 h15 p0).bind fun v17 =>
      (wI h15 v16 ((((64 : Int32) * p2) + ((8 : Int32) * p3)) + x4) v17).bind fun h18 =>
      (fI 4 9 h18 p0).bind fun v19 =>
      (sF 4 9 (.int (v19 + (1 : Int32))) h18 p0).bind fun h20 =>
      l_X4_lays_33 p0 p1 p2 p3 fuel (x4 + 1) h20
    )
def l_X4_lays_23 (p0 : Nat) (p1 : Int32) (p2 : Int32) : Nat → Int32 → Hp → Option Hp
  | 0, _, _ => none
  | fuel + 1, x3, h =>
    if p1 ≤ x3 then (
      some h
    ) else (
      (l_X4_lays_33 p0 p1 p2 x3 FU (x3 + (1 : Int32)) h).bind fun h21 =>
      l_X4_lays_23 p0 p1 p2 fuel (x3 + 1) h21
    )
def l_X4_lays_14 (p0 : Nat) (p1 : Int32) : Nat → Int32 → Hp → Option Hp
  | 0, _, _ => none
  | fuel + 1, x2, h =>
    if p1 ≤ x2 then (
      some h
    ) else (
      (l_X4_lays_23 p0 p1 x2 FU (x2 + (1 : Int32)) h).bind fun h22 =>
      l_X4_lays_14 p0 p1 fuel (x2 + 1) h22
    )
def l_X4_lays_143 (p0 : Nat) (p1 : Int32) (p2 : Int32) : Nat → Int32 → Hp → Option Hp
  | 0, _, _ => none
  | fuel + 1, x3, h =>
    if p1 ≤ x3 then (
      some h
    ) else (
      (f_X4_laysFrom p0 p2 x3 h).bind fun h28 =>
      l_X4_lays_143 p0 p1 p2 fuel (x3 + 1) h28
    )
def l_X4_lays_136 (p0 : Nat) (p1 : Int32) : Nat → Int32 → Hp → Option Hp
  | 0, _, _ => none
  | fuel + 1, x2, h =>
    if p1 ≤ x2 then (
      some h
    ) else (
      (l_X4_lays_143 p0 p1 x2 FU (0 : Int32) h).bind fun h29 =>
      l_X4_lays_136 p0 p1 fuel (x2 + 1) h29
    )
def f_X4_lays (o : Nat) (h : Hp) : Option Hp :=
  (rc 4 h o).bind fun _ =>
  (fR 4 0 h o).bind fun v1 =>
  (aI h v1 (0 : Int32)).bind fun v2 =>
  (sF 4 9 (.int (0 : Int32)) h o).bind fun h3 =>
  (l_X4_lays_14 o v2 FU (0 : Int32) h3).bind fun h23 =>
  (sF 4 11 (.int (0 : Int32)) h23 o).bind fun h24 =>
  (l_X4_lays_136 o v2 FU (0 : Int32) h24).bind fun h30 =>
  some (h30)
set_option maxHeartbeats 2000000 in
set_option maxRecDepth 20000 in
theorem L_X4_lays_33 {g : GT} {Γ : CT} {Q : State → Prop} {mc ms : Nat} (C : Cx g Γ cX4_lays RX4 "lays" 5 none 7 mc ms) {p0 : Nat} {p1 : Int32} {p2 : Int32} {p3 : Int32} : ∀ {fuel : Nat} {x4 : Int32} {h : Hp} {hy : Hp}, l_X4_lays_33 p0 p1 p2 p3 fuel x4 h = some hy → U g Γ 5 Q 0 0 117 [(0, .ref p0), (1, .int p1), (2, .int p2), (3, .int p3)] [] hy → U g Γ 5 Q 0 0 33 [(0, .ref p0), (1, .int p1), (2, .int p2), (3, .int p3), (4, .int x4)] [] h := by
  intro fuel
  induction fuel with
  | zero =>
    intro x4 h hy hf J0
    simp only [l_X4_lays_33, reduceCtorEq] at hf
  | succ fuel ih =>
    intro x4 h hy hf J0
    rw [l_X4_lays_33] at hf
    refine U_iload (n := 35) 4 C dX4_lays_33 rfl rfl ?_
    refine U_iload_n (n := 36) 1 C dX4_lays_35 rfl rfl ?_
    refine U_icge (tgt := 117) (n := 39) C dX4_lays_36 (by decide) rfl (fun c6 => ?_) (fun c6 => ?_)
    · replace hf := (if_pos c6).symm.trans hf
      have hr := Option.some.inj hf
      subst hr
      exact U_lv [0, 1, 2, 3] rfl J0
    · replace hf := (if_neg c6).symm.trans hf
      refine U_aload_n (n := 40) 0 C dX4_lays_39 rfl rfl rfl ?_
      refine gf_RX4_22 (n := 43) C dX4_lays_40 hf rfl (fun v7 hf => ?_)
      refine U_iconst (n := 44) (3 : Int32) C dX4_lays_43 kiconst_3 rfl ?_
      refine U_aload_n (n := 45) 0 C dX4_lays_44 rfl rfl rfl ?_
      refine gf_RX4_71 (n := 48) C dX4_lays_45 hf rfl (fun v8 hf => ?_)
      refine U_imul (n := 49) C dX4_lays_48 rfl ?_
      refine U_iload_n (n := 50) 2 C dX4_lays_49 rfl rfl ?_
      refine U_iast (n := 51) C dX4_lays_50 hf rfl (fun h9 hf => ?_)
      refine U_aload_n (n := 52) 0 C dX4_lays_51 rfl rfl rfl ?_
      refine gf_RX4_22 (n := 55) C dX4_lays_52 hf rfl (fun v10 hf => ?_)
      refine U_iconst (n := 56) (3 : Int32) C dX4_lays_55 kiconst_3 rfl ?_
      refine U_aload_n (n := 57) 0 C dX4_lays_56 rfl rfl rfl ?_
      refine gf_RX4_71 (n := 60) C dX4_lays_57 hf rfl (fun v11 hf => ?_)
      refine U_imul (n := 61) C dX4_lays_60 rfl ?_
      refine U_iconst (n := 62) (1 : Int32) C dX4_lays_61 kiconst_1 rfl ?_
      refine U_iadd (n := 63) C dX4_lays_62 rfl ?_
      refine U_iload_n (n := 64) 3 C dX4_lays_63 rfl rfl ?_
      refine U_iast (n := 65) C dX4_lays_64 hf rfl (fun h12 hf => ?_)
      refine U_aload_n (n := 66) 0 C dX4_lays_65 rfl rfl rfl ?_
      refine gf_RX4_22 (n := 69) C dX4_lays_66 hf rfl (fun v13 hf => ?_)
      refine U_iconst (n := 70) (3 : Int32) C dX4_lays_69 kiconst_3 rfl ?_
      refine U_aload_n (n := 71) 0 C dX4_lays_70 rfl rfl rfl ?_
      refine gf_RX4_71 (n := 74) C dX4_lays_71 hf rfl (fun v14 hf => ?_)
      refine U_imul (n := 75) C dX4_lays_74 rfl ?_
      refine U_iconst (n := 76) (2 : Int32) C dX4_lays_75 kiconst_2 rfl ?_
      refine U_iadd (n := 77) C dX4_lays_76 rfl ?_
      refine U_iload (n := 79) 4 C dX4_lays_77 rfl rfl ?_
      refine U_iast (n := 80) C dX4_lays_79 hf rfl (fun h15 hf => ?_)
      refine U_aload_n (n := 81) 0 C dX4_lays_80 rfl rfl rfl ?_
      refine gf_RX4_25 (n := 84) C dX4_lays_81 hf rfl (fun v16 hf => ?_)
      refine U_bipush (n := 86) (64 : Int32) C dX4_lays_84 kbipush_64 rfl ?_
      refine U_iload_n (n := 87) 2 C dX4_lays_86 rfl rfl ?_
      refine U_imul (n := 88) C dX4_lays_87 rfl ?_
      refine U_bipush (n := 90) (8 : Int32) C dX4_lays_88 kbipush_8 rfl ?_
      refine U_iload_n (n := 91) 3 C dX4_lays_90 rfl rfl ?_
      refine U_imul (n := 92) C dX4_lays_91 rfl ?_
      refine U_iadd (n := 93) C dX4_lays_92 rfl ?_
      refine U_iload (n := 95) 4 C dX4_lays_93 rfl rfl ?_
      refine U_iadd (n := 96) C dX4_lays_95 rfl ?_
      refine U_aload_n (n := 97) 0 C dX4_lays_96 rfl rfl rfl ?_
      refine gf_RX4_71 (n := 100) C dX4_lays_97 hf rfl (fun v17 hf => ?_)
      refine U_iast (n := 101) C dX4_lays_100 hf rfl (fun h18 hf => ?_)
      refine U_aload_n (n := 102) 0 C dX4_lays_101 rfl rfl rfl ?_
      refine U_dup (n := 103) C dX4_lays_102 rfl rfl ?_
      refine gf_RX4_71 (n := 106) C dX4_lays_103 hf rfl (fun v19 hf => ?_)
      refine U_iconst (n := 107) (1 : Int32) C dX4_lays_106 kiconst_1 rfl ?_
      refine U_iadd (n := 108) C dX4_lays_107 rfl ?_
      refine pf_RX4_71 (n := 111) C dX4_lays_108 hf rfl (fun h20 hf => ?_)
      refine U_iinc (n := 114) (v := (x4 + 1)) (lv2 := [(4, .int (x4 + 1)), (0, .ref p0), (1, .int p1), (2, .int p2), (3, .int p3)]) 4 C dX4_lays_111 rfl rfl (by decide) rfl rfl ?_
      refine U_goto (n := 0) (tgt := 33) C dX4_lays_114 (by decide) ?_
      exact U_lv [1, 2, 3, 4, 0] rfl (ih hf J0)
set_option maxHeartbeats 2000000 in
set_option maxRecDepth 20000 in
theorem L_X4_lays_23 {g : GT} {Γ : CT} {Q : State → Prop} {mc ms : Nat} (C : Cx g Γ cX4_lays RX4 "lays" 5 none 7 mc ms) {p0 : Nat} {p1 : Int32} {p2 : Int32} : ∀ {fuel : Nat} {x3 : Int32} {h : Hp} {hy : Hp}, l_X4_lays_23 p0 p1 p2 fuel x3 h = some hy → U g Γ 5 Q 0 0 123 [(0, .ref p0), (1, .int p1), (2, .int p2)] [] hy → U g Γ 5 Q 0 0 23 [(0, .ref p0), (1, .int p1), (2, .int p2), (3, .int x3)] [] h := by
  intro fuel
  induction fuel with
  | zero =>
    intro x3 h hy hf J0
    simp only [l_X4_lays_23, reduceCtorEq] at hf
  | succ fuel ih =>
    intro x3 h hy hf J0
    rw [l_X4_lays_23] at hf
    refine U_iload_n (n := 24) 3 C dX4_lays_23 rfl rfl ?_
    refine U_iload_n (n := 25) 1 C dX4_lays_24 rfl rfl ?_
    refine U_icge (tgt := 123) (n := 28) C dX4_lays_25 (by decide) rfl (fun c5 => ?_) (fun c5 => ?_)
    · replace hf := (if_pos c5).symm.trans hf
      have hr := Option.some.inj hf
      subst hr
      exact U_lv [0, 1, 2] rfl J0
    · replace hf := (if_neg c5).symm.trans hf
      refine U_iload_n (n := 29) 3 C dX4_lays_28 rfl rfl ?_
      refine U_iconst (n := 30) (1 : Int32) C dX4_lays_29 kiconst_1 rfl ?_
      refine U_iadd (n := 31) C dX4_lays_30 rfl ?_
      refine U_istore (n := 33) (lv2 := [(4, .int (x3 + (1 : Int32))), (0, .ref p0), (1, .int p1), (2, .int p2), (3, .int x3)]) C dX4_lays_31 (by decide) rfl rfl ?_
      refine U_join1 (fun h21 => U g Γ 5 Q 0 0 117 [(0, .ref p0), (1, .int p1), (2, .int p2), (3, .int x3)] [] h21) hf (fun h21 hf => ?_) (fun h21 hf J => U_lv [1, 2, 3, 4, 0] rfl (L_X4_lays_33 C hf J))
      refine U_iinc (n := 120) (v := (x3 + 1)) (lv2 := [(3, .int (x3 + 1)), (0, .ref p0), (1, .int p1), (2, .int p2)]) 3 C dX4_lays_117 rfl rfl (by decide) rfl rfl ?_
      refine U_goto (n := 0) (tgt := 23) C dX4_lays_120 (by decide) ?_
      exact U_lv [1, 2, 3, 0] rfl (ih hf J0)
set_option maxHeartbeats 2000000 in
set_option maxRecDepth 20000 in
theorem L_X4_lays_14 {g : GT} {Γ : CT} {Q : State → Prop} {mc ms : Nat} (C : Cx g Γ cX4_lays RX4 "lays" 5 none 7 mc ms) {p0 : Nat} {p1 : Int32} : ∀ {fuel : Nat} {x2 : Int32} {h : Hp} {hy : Hp}, l_X4_lays_14 p0 p1 fuel x2 h = some hy → U g Γ 5 Q 0 0 129 [(0, .ref p0), (1, .int p1)] [] hy → U g Γ 5 Q 0 0 14 [(0, .ref p0), (1, .int p1), (2, .int x2)] [] h := by
  intro fuel
  induction fuel with
  | zero =>
    intro x2 h hy hf J0
    simp only [l_X4_lays_14, reduceCtorEq] at hf
  | succ fuel ih =>
    intro x2 h hy hf J0
    rw [l_X4_lays_14] at hf
    refine U_iload_n (n := 15) 2 C dX4_lays_14 rfl rfl ?_
    refine U_iload_n (n := 16) 1 C dX4_lays_15 rfl rfl ?_
    refine U_icge (tgt := 129) (n := 19) C dX4_lays_16 (by decide) rfl (fun c4 => ?_) (fun c4 => ?_)
    · replace hf := (if_pos c4).symm.trans hf
      have hr := Option.some.inj hf
      subst hr
      exact U_lv [0, 1] rfl J0
    · replace hf := (if_neg c4).symm.trans hf
      refine U_iload_n (n := 20) 2 C dX4_lays_19 rfl rfl ?_
      refine U_iconst (n := 21) (1 : Int32) C dX4_lays_20 kiconst_1 rfl ?_
      refine U_iadd (n := 22) C dX4_lays_21 rfl ?_
      refine U_istore_n (n := 23) (lv2 := [(3, .int (x2 + (1 : Int32))), (0, .ref p0), (1, .int p1), (2, .int x2)]) C dX4_lays_22 (by decide) rfl rfl ?_
      refine U_join1 (fun h22 => U g Γ 5 Q 0 0 123 [(0, .ref p0), (1, .int p1), (2, .int x2)] [] h22) hf (fun h22 hf => ?_) (fun h22 hf J => U_lv [1, 2, 3, 0] rfl (L_X4_lays_23 C hf J))
      refine U_iinc (n := 126) (v := (x2 + 1)) (lv2 := [(2, .int (x2 + 1)), (0, .ref p0), (1, .int p1)]) 2 C dX4_lays_123 rfl rfl (by decide) rfl rfl ?_
      refine U_goto (n := 0) (tgt := 14) C dX4_lays_126 (by decide) ?_
      exact U_lv [1, 2, 0] rfl (ih hf J0)
set_option maxHeartbeats 2000000 in
set_option maxRecDepth 20000 in
theorem L_X4_lays_143 {g : GT} {Γ : CT} {Q : State → Prop} {mc ms : Nat} (C : Cx g Γ cX4_lays RX4 "lays" 5 none 7 mc ms) {p0 : Nat} {p1 : Int32} {p2 : Int32} : ∀ {fuel : Nat} {x3 : Int32} {h : Hp} {hy : Hp}, l_X4_lays_143 p0 p1 p2 fuel x3 h = some hy → U g Γ 5 Q 0 0 160 [(0, .ref p0), (1, .int p1), (2, .int p2)] [] hy → U g Γ 5 Q 0 0 143 [(0, .ref p0), (1, .int p1), (2, .int p2), (3, .int x3)] [] h := by
  intro fuel
  induction fuel with
  | zero =>
    intro x3 h hy hf J0
    simp only [l_X4_lays_143, reduceCtorEq] at hf
  | succ fuel ih =>
    intro x3 h hy hf J0
    rw [l_X4_lays_143] at hf
    refine U_iload_n (n := 144) 3 C dX4_lays_143 rfl rfl ?_
    refine U_iload_n (n := 145) 1 C dX4_lays_144 rfl rfl ?_
    refine U_icge (tgt := 160) (n := 148) C dX4_lays_145 (by decide) rfl (fun c26 => ?_) (fun c26 => ?_)
    · replace hf := (if_pos c26).symm.trans hf
      have hr := Option.some.inj hf
      subst hr
      exact U_lv [0, 1, 2] rfl J0
    · replace hf := (if_neg c26).symm.trans hf
      refine U_aload_n (n := 149) 0 C dX4_lays_148 rfl rfl rfl ?_
      refine U_iload_n (n := 150) 2 C dX4_lays_149 rfl rfl ?_
      refine U_iload_n (n := 151) 3 C dX4_lays_150 rfl rfl ?_
      obtain ⟨h28, ev27, hf⟩ := bsome hf
      refine cv_RX4_77 (n := 154) C dX4_lays_151 (av := [.int p2, .int x3]) rfl (rc_X4_laysFrom ev27) (M_X4_laysFrom ev27) (Nat.le_of_ble_eq_true rfl) (Nat.zero_le _) (Nat.zero_le _) (Nat.le_of_ble_eq_true rfl) rfl ?_
      refine U_iinc (n := 157) (v := (x3 + 1)) (lv2 := [(3, .int (x3 + 1)), (0, .ref p0), (1, .int p1), (2, .int p2)]) 3 C dX4_lays_154 rfl rfl (by decide) rfl rfl ?_
      refine U_goto (n := 0) (tgt := 143) C dX4_lays_157 (by decide) ?_
      exact U_lv [1, 2, 3, 0] rfl (ih hf J0)
set_option maxHeartbeats 2000000 in
set_option maxRecDepth 20000 in
theorem L_X4_lays_136 {g : GT} {Γ : CT} {Q : State → Prop} {mc ms : Nat} (C : Cx g Γ cX4_lays RX4 "lays" 5 none 7 mc ms) {p0 : Nat} {p1 : Int32} : ∀ {fuel : Nat} {x2 : Int32} {h : Hp} {hy : Hp}, l_X4_lays_136 p0 p1 fuel x2 h = some hy → U g Γ 5 Q 0 0 166 [] [] hy → U g Γ 5 Q 0 0 136 [(0, .ref p0), (1, .int p1), (2, .int x2)] [] h := by
  intro fuel
  induction fuel with
  | zero =>
    intro x2 h hy hf J0
    simp only [l_X4_lays_136, reduceCtorEq] at hf
  | succ fuel ih =>
    intro x2 h hy hf J0
    rw [l_X4_lays_136] at hf
    refine U_iload_n (n := 137) 2 C dX4_lays_136 rfl rfl ?_
    refine U_iload_n (n := 138) 1 C dX4_lays_137 rfl rfl ?_
    refine U_icge (tgt := 166) (n := 141) C dX4_lays_138 (by decide) rfl (fun c25 => ?_) (fun c25 => ?_)
    · replace hf := (if_pos c25).symm.trans hf
      have hr := Option.some.inj hf
      subst hr
      exact U_lv [] rfl J0
    · replace hf := (if_neg c25).symm.trans hf
      refine U_iconst (n := 142) (0 : Int32) C dX4_lays_141 kiconst_0 rfl ?_
      refine U_istore_n (n := 143) (lv2 := [(3, .int (0 : Int32)), (0, .ref p0), (1, .int p1), (2, .int x2)]) C dX4_lays_142 (by decide) rfl rfl ?_
      refine U_join1 (fun h29 => U g Γ 5 Q 0 0 160 [(0, .ref p0), (1, .int p1), (2, .int x2)] [] h29) hf (fun h29 hf => ?_) (fun h29 hf J => U_lv [1, 2, 3, 0] rfl (L_X4_lays_143 C hf J))
      refine U_iinc (n := 163) (v := (x2 + 1)) (lv2 := [(2, .int (x2 + 1)), (0, .ref p0), (1, .int p1)]) 2 C dX4_lays_160 rfl rfl (by decide) rfl rfl ?_
      refine U_goto (n := 0) (tgt := 136) C dX4_lays_163 (by decide) ?_
      exact U_lv [1, 2, 0] rfl (ih hf J0)
theorem rc_X4_lays {o : Nat} {h : Hp} {z} (hf : f_X4_lays o h = some z) : rc 4 h o = some () := by
  unfold f_X4_lays at hf
  exact (bsome hf).choose_spec.1
set_option maxHeartbeats 2000000 in
set_option maxRecDepth 20000 in
theorem M_X4_lays {g : GT} {o : Nat} {h : Hp} {h2 : Hp} (hf : f_X4_lays o h = some h2) : CM g yX4_lays cX4_lays 5 none 7 0 0 [.ref o] h (.inr none) h2 := by
  refine CM_of rfl (fun _ => Nat.le_of_ble_eq_true rfl) (fun Γ C hn0 => ?_)
  have C : Cx g Γ cX4_lays RX4 "lays" 5 none 7 0 0 := C
  generalize hQ : Qe g Γ (.inr none) h2 0 0 = Q
  show U g Γ 5 Q 0 0 0 [(0, .ref o)] [] h
  unfold f_X4_lays at hf
  replace hf := (bsome hf).choose_spec.2
  refine U_aload_n (n := 1) 0 C dX4_lays_0 rfl rfl rfl ?_
  refine gf_RX4_7 (n := 4) C dX4_lays_1 hf rfl (fun v1 hf => ?_)
  refine U_iconst (n := 5) (0 : Int32) C dX4_lays_4 kiconst_0 rfl ?_
  refine U_iald (n := 6) C dX4_lays_5 hf rfl (fun v2 hf => ?_)
  refine U_istore_n (n := 7) (lv2 := [(1, .int v2), (0, .ref o)]) C dX4_lays_6 (by decide) rfl rfl ?_
  refine U_aload_n (n := 8) 1 C dX4_lays_7 rfl rfl rfl ?_
  refine U_iconst (n := 9) (0 : Int32) C dX4_lays_8 kiconst_0 rfl ?_
  refine pf_RX4_71 (n := 12) C dX4_lays_9 hf rfl (fun h3 hf => ?_)
  refine U_iconst (n := 13) (0 : Int32) C dX4_lays_12 kiconst_0 rfl ?_
  refine U_istore_n (n := 14) (lv2 := [(2, .int (0 : Int32)), (1, .int v2), (0, .ref o)]) C dX4_lays_13 (by decide) rfl rfl ?_
  refine U_join1 (fun h23 => U g Γ 5 Q 0 0 129 [(0, .ref o), (1, .int v2)] [] h23) hf (fun h23 hf => ?_) (fun h23 hf J => U_lv [2, 1, 0] rfl (L_X4_lays_14 C hf J))
  refine U_aload_n (n := 130) 0 C dX4_lays_129 rfl rfl rfl ?_
  refine U_iconst (n := 131) (0 : Int32) C dX4_lays_130 kiconst_0 rfl ?_
  refine pf_RX4_74 (n := 134) C dX4_lays_131 hf rfl (fun h24 hf => ?_)
  refine U_iconst (n := 135) (0 : Int32) C dX4_lays_134 kiconst_0 rfl ?_
  refine U_istore_n (n := 136) (lv2 := [(2, .int (0 : Int32)), (0, .ref o), (1, .int v2)]) C dX4_lays_135 (by decide) rfl rfl ?_
  refine U_join1 (fun h30 => U g Γ 5 Q 0 0 166 [] [] h30) hf (fun h30 hf => ?_) (fun h30 hf J => U_lv [1, 2, 0] rfl (L_X4_lays_136 C hf J))
  have hr := (Option.some.inj hf)
  subst hr
  subst hQ
  exact U_vret C dX4_lays_166 (Nat.le_refl 0) (Nat.le_refl 0)
def l_X4_begins_2 (p0 : Nat) : Nat → Int32 → Hp → Option Hp
  | 0, _, _ => none
  | fuel + 1, x2, h =>
    if (56 : Int32) ≤ x2 then (
      some h
    ) else (
      (f_X4_clears p0 x2 h).bind fun h3 =>
      l_X4_begins_2 p0 fuel (x2 + 1) h3
    )
def l_X4_begins_23 (p0 : Nat) : Nat → Int32 → Hp → Option Hp
  | 0, _, _ => none
  | fuel + 1, x2, h =>
    if (243 : Int32) ≤ x2 then (
      some h
    ) else (
      (fR 4 0 h p0).bind fun v6 =>
      (wI h v6 x2 (-100 : Int32)).bind fun h7 =>
      l_X4_begins_23 p0 fuel (x2 + 1) h7
    )
def f_X4_begins (o : Nat) (a1 : Int32) (h : Hp) : Option Hp :=
  (rc 4 h o).bind fun _ =>
  (l_X4_begins_2 o FU (0 : Int32) h).bind fun h4 =>
  (l_X4_begins_23 o FU (227 : Int32) h4).bind fun h8 =>
  (fR 4 0 h8 o).bind fun v9 =>
  (wI h8 v9 (0 : Int32) a1).bind fun h10 =>
  (fR 4 0 h10 o).bind fun v11 =>
  (wI h10 v11 (2 : Int32) (-100 : Int32)).bind fun h12 =>
  (f_X4_lays o h12).bind fun h14 =>
  some (h14)
set_option maxHeartbeats 2000000 in
set_option maxRecDepth 20000 in
theorem L_X4_begins_2 {g : GT} {Γ : CT} {Q : State → Prop} {mc ms : Nat} (C : Cx g Γ cX4_begins RX4 "begins" 3 none 8 mc ms) {p0 : Nat} {p1 : Int32} : ∀ {fuel : Nat} {x2 : Int32} {h : Hp} {hy : Hp}, l_X4_begins_2 p0 fuel x2 h = some hy → U g Γ 3 Q 0 0 19 [(0, .ref p0), (1, .int p1)] [] hy → U g Γ 3 Q 0 0 2 [(0, .ref p0), (1, .int p1), (2, .int x2)] [] h := by
  intro fuel
  induction fuel with
  | zero =>
    intro x2 h hy hf J0
    simp only [l_X4_begins_2, reduceCtorEq] at hf
  | succ fuel ih =>
    intro x2 h hy hf J0
    rw [l_X4_begins_2] at hf
    refine U_iload_n (n := 3) 2 C dX4_begins_2 rfl rfl ?_
    refine U_bipush (n := 5) (56 : Int32) C dX4_begins_3 kbipush_56 rfl ?_
    refine U_icge (tgt := 19) (n := 8) C dX4_begins_5 (by decide) rfl (fun c1 => ?_) (fun c1 => ?_)
    · replace hf := (if_pos c1).symm.trans hf
      have hr := Option.some.inj hf
      subst hr
      exact U_lv [0, 1] rfl J0
    · replace hf := (if_neg c1).symm.trans hf
      refine U_aload_n (n := 9) 0 C dX4_begins_8 rfl rfl rfl ?_
      refine U_iload_n (n := 10) 2 C dX4_begins_9 rfl rfl ?_
      obtain ⟨h3, ev2, hf⟩ := bsome hf
      refine cv_RX4_81 (n := 13) C dX4_begins_10 (av := [.int x2]) rfl (rc_X4_clears ev2) (M_X4_clears ev2) (Nat.le_of_ble_eq_true rfl) (Nat.zero_le _) (Nat.zero_le _) (Nat.le_of_ble_eq_true rfl) rfl ?_
      refine U_iinc (n := 16) (v := (x2 + 1)) (lv2 := [(2, .int (x2 + 1)), (0, .ref p0), (1, .int p1)]) 2 C dX4_begins_13 rfl rfl (by decide) rfl rfl ?_
      refine U_goto (n := 0) (tgt := 2) C dX4_begins_16 (by decide) ?_
      exact U_lv [1, 2, 0] rfl (ih hf J0)
set_option maxHeartbeats 2000000 in
set_option maxRecDepth 20000 in
theorem L_X4_begins_23 {g : GT} {Γ : CT} {Q : State → Prop} {mc ms : Nat} (C : Cx g Γ cX4_begins RX4 "begins" 3 none 8 mc ms) {p0 : Nat} {p1 : Int32} : ∀ {fuel : Nat} {x2 : Int32} {h : Hp} {hy : Hp}, l_X4_begins_23 p0 fuel x2 h = some hy → U g Γ 3 Q 0 0 44 [(0, .ref p0), (1, .int p1)] [] hy → U g Γ 3 Q 0 0 23 [(0, .ref p0), (1, .int p1), (2, .int x2)] [] h := by
  intro fuel
  induction fuel with
  | zero =>
    intro x2 h hy hf J0
    simp only [l_X4_begins_23, reduceCtorEq] at hf
  | succ fuel ih =>
    intro x2 h hy hf J0
    rw [l_X4_begins_23] at hf
    refine U_iload_n (n := 24) 2 C dX4_begins_23 rfl rfl ?_
    refine U_sipush (n := 27) (243 : Int32) C dX4_begins_24 ksipush_243 rfl ?_
    refine U_icge (tgt := 44) (n := 30) C dX4_begins_27 (by decide) rfl (fun c5 => ?_) (fun c5 => ?_)
    · replace hf := (if_pos c5).symm.trans hf
      have hr := Option.some.inj hf
      subst hr
      exact U_lv [0, 1] rfl J0
    · replace hf := (if_neg c5).symm.trans hf
      refine U_aload_n (n := 31) 0 C dX4_begins_30 rfl rfl rfl ?_
      refine gf_RX4_7 (n := 34) C dX4_begins_31 hf rfl (fun v6 hf => ?_)
      refine U_iload_n (n := 35) 2 C dX4_begins_34 rfl rfl ?_
      refine U_bipush (n := 37) (-100 : Int32) C dX4_begins_35 kbipush_m100 rfl ?_
      refine U_iast (n := 38) C dX4_begins_37 hf rfl (fun h7 hf => ?_)
      refine U_iinc (n := 41) (v := (x2 + 1)) (lv2 := [(2, .int (x2 + 1)), (0, .ref p0), (1, .int p1)]) 2 C dX4_begins_38 rfl rfl (by decide) rfl rfl ?_
      refine U_goto (n := 0) (tgt := 23) C dX4_begins_41 (by decide) ?_
      exact U_lv [1, 2, 0] rfl (ih hf J0)
theorem rc_X4_begins {o : Nat} {a1 : Int32} {h : Hp} {z} (hf : f_X4_begins o a1 h = some z) : rc 4 h o = some () := by
  unfold f_X4_begins at hf
  exact (bsome hf).choose_spec.1
set_option maxHeartbeats 2000000 in
set_option maxRecDepth 20000 in
theorem M_X4_begins {g : GT} {o : Nat} {a1 : Int32} {h : Hp} {h2 : Hp} (hf : f_X4_begins o a1 h = some h2) : CM g yX4_begins cX4_begins 3 none 8 0 0 [.ref o, .int a1] h (.inr none) h2 := by
  refine CM_of rfl (fun _ => Nat.le_of_ble_eq_true rfl) (fun Γ C hn0 => ?_)
  have C : Cx g Γ cX4_begins RX4 "begins" 3 none 8 0 0 := C
  generalize hQ : Qe g Γ (.inr none) h2 0 0 = Q
  show U g Γ 3 Q 0 0 0 [(0, .ref o), (1, .int a1)] [] h
  unfold f_X4_begins at hf
  replace hf := (bsome hf).choose_spec.2
  refine U_iconst (n := 1) (0 : Int32) C dX4_begins_0 kiconst_0 rfl ?_
  refine U_istore_n (n := 2) (lv2 := [(2, .int (0 : Int32)), (0, .ref o), (1, .int a1)]) C dX4_begins_1 (by decide) rfl rfl ?_
  refine U_join1 (fun h4 => U g Γ 3 Q 0 0 19 [(0, .ref o), (1, .int a1)] [] h4) hf (fun h4 hf => ?_) (fun h4 hf J => U_lv [1, 2, 0] rfl (L_X4_begins_2 C hf J))
  refine U_sipush (n := 22) (227 : Int32) C dX4_begins_19 ksipush_227 rfl ?_
  refine U_istore_n (n := 23) (lv2 := [(2, .int (227 : Int32)), (0, .ref o), (1, .int a1)]) C dX4_begins_22 (by decide) rfl rfl ?_
  refine U_join1 (fun h8 => U g Γ 3 Q 0 0 44 [(0, .ref o), (1, .int a1)] [] h8) hf (fun h8 hf => ?_) (fun h8 hf J => U_lv [1, 2, 0] rfl (L_X4_begins_23 C hf J))
  refine U_aload_n (n := 45) 0 C dX4_begins_44 rfl rfl rfl ?_
  refine gf_RX4_7 (n := 48) C dX4_begins_45 hf rfl (fun v9 hf => ?_)
  refine U_iconst (n := 49) (0 : Int32) C dX4_begins_48 kiconst_0 rfl ?_
  refine U_iload_n (n := 50) 1 C dX4_begins_49 rfl rfl ?_
  refine U_iast (n := 51) C dX4_begins_50 hf rfl (fun h10 hf => ?_)
  refine U_aload_n (n := 52) 0 C dX4_begins_51 rfl rfl rfl ?_
  refine gf_RX4_7 (n := 55) C dX4_begins_52 hf rfl (fun v11 hf => ?_)
  refine U_iconst (n := 56) (2 : Int32) C dX4_begins_55 kiconst_2 rfl ?_
  refine U_bipush (n := 58) (-100 : Int32) C dX4_begins_56 kbipush_m100 rfl ?_
  refine U_iast (n := 59) C dX4_begins_58 hf rfl (fun h12 hf => ?_)
  refine U_aload_n (n := 60) 0 C dX4_begins_59 rfl rfl rfl ?_
  obtain ⟨h14, ev13, hf⟩ := bsome hf
  refine cv_RX4_84 (n := 63) C dX4_begins_60 (av := []) rfl (rc_X4_lays ev13) (M_X4_lays ev13) (Nat.le_of_ble_eq_true rfl) (Nat.zero_le _) (Nat.zero_le _) (Nat.le_of_ble_eq_true rfl) rfl ?_
  have hr := (Option.some.inj hf)
  subst hr
  subst hQ
  exact U_vret C dX4_begins_63 (Nat.le_refl 0) (Nat.le_refl 0)
def f_X4_thrown (o : Nat) (h : Hp) : Option Int32 :=
  (rc 4 h o).bind fun _ =>
  (fI 4 6 h o).bind fun v1 =>
  some (v1)
theorem rc_X4_thrown {o : Nat} {h : Hp} {z} (hf : f_X4_thrown o h = some z) : rc 4 h o = some () := by
  unfold f_X4_thrown at hf
  exact (bsome hf).choose_spec.1
set_option maxHeartbeats 2000000 in
set_option maxRecDepth 20000 in
theorem M_X4_thrown {g : GT} {o : Nat} {h : Hp} {r : Int32} (hf : f_X4_thrown o h = some r) : CM g yX4_thrown cX4_thrown 1 (some .int) 6 0 0 [.ref o] h (.inr (some (.int r))) h := by
  refine CM_of rfl (fun _ => Nat.le_of_ble_eq_true rfl) (fun Γ C hn0 => ?_)
  have C : Cx g Γ cX4_thrown RX4 "thrown" 1 (some .int) 6 0 0 := C
  generalize hQ : Qe g Γ (.inr (some (.int r))) h 0 0 = Q
  show U g Γ 1 Q 0 0 0 [(0, .ref o)] [] h
  unfold f_X4_thrown at hf
  replace hf := (bsome hf).choose_spec.2
  refine U_aload_n (n := 1) 0 C dX4_thrown_0 rfl rfl rfl ?_
  refine gf_RX4_60 (n := 4) C dX4_thrown_1 hf rfl (fun v1 hf => ?_)
  have hr := (Option.some.inj hf)
  subst hr
  subst hQ
  exact U_iret C dX4_thrown_4 (Nat.le_refl 0) (Nat.le_refl 0)
def f_X4_in (a0 : Int32) (a1 : Int32) (a2 : Int32) : Option Int32 :=
  if a0 < a1 then (
    some ((0 : Int32))
  ) else (
    if a2 < a0 then (
      some ((0 : Int32))
    ) else (
      some ((1 : Int32))
    )
  )
set_option maxHeartbeats 2000000 in
set_option maxRecDepth 20000 in
theorem M_X4_in {g : GT} {a0 : Int32} {a1 : Int32} {a2 : Int32} {h : Hp} {r : Int32} (hf : f_X4_in a0 a1 a2 = some r) : CM g yX4_in cX4_in 3 (some .boolean) 6 0 0 [.int a0, .int a1, .int a2] h (.inr (some (.int r))) h := by
  refine CM_of rfl (fun _ => Nat.le_of_ble_eq_true rfl) (fun Γ C hn0 => ?_)
  have C : Cx g Γ cX4_in RX4 "in" 3 (some .boolean) 6 0 0 := C
  generalize hQ : Qe g Γ (.inr (some (.int r))) h 0 0 = Q
  show U g Γ 3 Q 0 0 0 [(0, .int a0), (1, .int a1), (2, .int a2)] [] h
  unfold f_X4_in at hf
  refine U_iload_n (n := 1) 0 C dX4_in_0 rfl rfl ?_
  refine U_iload_n (n := 2) 1 C dX4_in_1 rfl rfl ?_
  refine U_iclt (tgt := 14) (n := 5) C dX4_in_2 (by decide) rfl (fun c1 => ?_) (fun c1 => ?_)
  · replace hf := (if_pos c1).symm.trans hf
    refine U_iconst (n := 15) (0 : Int32) C dX4_in_14 kiconst_0 rfl ?_
    have hr := (Option.some.inj hf)
    subst hr
    subst hQ
    exact U_zret C dX4_in_15 (Or.inl rfl) (Nat.le_refl 0) (Nat.le_refl 0)
  · replace hf := (if_neg c1).symm.trans hf
    refine U_iload_n (n := 6) 0 C dX4_in_5 rfl rfl ?_
    refine U_iload_n (n := 7) 2 C dX4_in_6 rfl rfl ?_
    refine U_icgt (tgt := 14) (n := 10) C dX4_in_7 (by decide) rfl (fun c2 => ?_) (fun c2 => ?_)
    · replace hf := (if_pos c2).symm.trans hf
      refine U_iconst (n := 15) (0 : Int32) C dX4_in_14 kiconst_0 rfl ?_
      have hr := (Option.some.inj hf)
      subst hr
      subst hQ
      exact U_zret C dX4_in_15 (Or.inl rfl) (Nat.le_refl 0) (Nat.le_refl 0)
    · replace hf := (if_neg c2).symm.trans hf
      refine U_iconst (n := 11) (1 : Int32) C dX4_in_10 kiconst_1 rfl ?_
      refine U_goto (n := 0) (tgt := 15) C dX4_in_11 (by decide) ?_
      have hr := (Option.some.inj hf)
      subst hr
      subst hQ
      exact U_zret C dX4_in_15 (Or.inr rfl) (Nat.le_refl 0) (Nat.le_refl 0)
def f_X4_fails (o : Nat) (a1 : Int32) (h : Hp) : Option (Int32 × Hp) :=
  (rc 4 h o).bind fun _ =>
  (sF 4 6 (.int a1) h o).bind fun h1 =>
  some (((0 : Int32), h1))
theorem rc_X4_fails {o : Nat} {a1 : Int32} {h : Hp} {z} (hf : f_X4_fails o a1 h = some z) : rc 4 h o = some () := by
  unfold f_X4_fails at hf
  exact (bsome hf).choose_spec.1
set_option maxHeartbeats 2000000 in
set_option maxRecDepth 20000 in
theorem M_X4_fails {g : GT} {o : Nat} {a1 : Int32} {h : Hp} {r : Int32} {h2 : Hp} (hf : f_X4_fails o a1 h = some (r, h2)) : CM g yX4_fails cX4_fails 2 (some .int) 6 0 0 [.ref o, .int a1] h (.inr (some (.int r))) h2 := by
  refine CM_of rfl (fun _ => Nat.le_of_ble_eq_true rfl) (fun Γ C hn0 => ?_)
  have C : Cx g Γ cX4_fails RX4 "fails" 2 (some .int) 6 0 0 := C
  generalize hQ : Qe g Γ (.inr (some (.int r))) h2 0 0 = Q
  show U g Γ 2 Q 0 0 0 [(0, .ref o), (1, .int a1)] [] h
  unfold f_X4_fails at hf
  replace hf := (bsome hf).choose_spec.2
  refine U_aload_n (n := 1) 0 C dX4_fails_0 rfl rfl rfl ?_
  refine U_iload_n (n := 2) 1 C dX4_fails_1 rfl rfl ?_
  refine pf_RX4_60 (n := 5) C dX4_fails_2 hf rfl (fun h1 hf => ?_)
  refine U_iconst (n := 6) (0 : Int32) C dX4_fails_5 kiconst_0 rfl ?_
  obtain ⟨hr1, hr2⟩ := Prod.mk.inj (Option.some.inj hf)
  subst hr1; subst hr2
  subst hQ
  exact U_iret C dX4_fails_6 (Nat.le_refl 0) (Nat.le_refl 0)
def f_X4_tells (o : Nat) (a1 : Int32) (h : Hp) : Option (Int32 × Hp) :=
  (rc 4 h o).bind fun _ =>
  (sF 4 6 (.int (0 : Int32)) h o).bind fun h1 =>
  some ((a1, h1))
theorem rc_X4_tells {o : Nat} {a1 : Int32} {h : Hp} {z} (hf : f_X4_tells o a1 h = some z) : rc 4 h o = some () := by
  unfold f_X4_tells at hf
  exact (bsome hf).choose_spec.1
set_option maxHeartbeats 2000000 in
set_option maxRecDepth 20000 in
theorem M_X4_tells {g : GT} {o : Nat} {a1 : Int32} {h : Hp} {r : Int32} {h2 : Hp} (hf : f_X4_tells o a1 h = some (r, h2)) : CM g yX4_tells cX4_tells 2 (some .int) 6 0 0 [.ref o, .int a1] h (.inr (some (.int r))) h2 := by
  refine CM_of rfl (fun _ => Nat.le_of_ble_eq_true rfl) (fun Γ C hn0 => ?_)
  have C : Cx g Γ cX4_tells RX4 "tells" 2 (some .int) 6 0 0 := C
  generalize hQ : Qe g Γ (.inr (some (.int r))) h2 0 0 = Q
  show U g Γ 2 Q 0 0 0 [(0, .ref o), (1, .int a1)] [] h
  unfold f_X4_tells at hf
  replace hf := (bsome hf).choose_spec.2
  refine U_aload_n (n := 1) 0 C dX4_tells_0 rfl rfl rfl ?_
  refine U_iconst (n := 2) (0 : Int32) C dX4_tells_1 kiconst_0 rfl ?_
  refine pf_RX4_60 (n := 5) C dX4_tells_2 hf rfl (fun h1 hf => ?_)
  refine U_iload_n (n := 6) 1 C dX4_tells_5 rfl rfl ?_
  obtain ⟨hr1, hr2⟩ := Prod.mk.inj (Option.some.inj hf)
  subst hr1; subst hr2
  subst hQ
  exact U_iret C dX4_tells_6 (Nat.le_refl 0) (Nat.le_refl 0)
def l_X4_hold_2 (p0 : Nat) : Nat → Int32 → Hp → Option Hp
  | 0, _, _ => none
  | fuel + 1, x1, h =>
    if (243 : Int32) ≤ x1 then (
      some h
    ) else (
      (fR 4 2 h p0).bind fun v2 =>
      (fR 4 0 h p0).bind fun v3 =>
      (aI h v3 x1).bind fun v4 =>
      (wI h v2 x1 v4).bind fun h5 =>
      l_X4_hold_2 p0 fuel (x1 + 1) h5
    )
def f_X4_hold (o : Nat) (h : Hp) : Option Hp :=
  (rc 4 h o).bind fun _ =>
  (l_X4_hold_2 o FU (0 : Int32) h).bind fun h6 =>
  some (h6)
set_option maxHeartbeats 2000000 in
set_option maxRecDepth 20000 in
theorem L_X4_hold_2 {g : GT} {Γ : CT} {Q : State → Prop} {mc ms : Nat} (C : Cx g Γ cX4_hold RX4 "hold" 2 none 6 mc ms) {p0 : Nat} : ∀ {fuel : Nat} {x1 : Int32} {h : Hp} {hy : Hp}, l_X4_hold_2 p0 fuel x1 h = some hy → U g Γ 2 Q 0 0 27 [] [] hy → U g Γ 2 Q 0 0 2 [(0, .ref p0), (1, .int x1)] [] h := by
  intro fuel
  induction fuel with
  | zero =>
    intro x1 h hy hf J0
    simp only [l_X4_hold_2, reduceCtorEq] at hf
  | succ fuel ih =>
    intro x1 h hy hf J0
    rw [l_X4_hold_2] at hf
    refine U_iload_n (n := 3) 1 C dX4_hold_2 rfl rfl ?_
    refine U_sipush (n := 6) (243 : Int32) C dX4_hold_3 ksipush_243 rfl ?_
    refine U_icge (tgt := 27) (n := 9) C dX4_hold_6 (by decide) rfl (fun c1 => ?_) (fun c1 => ?_)
    · replace hf := (if_pos c1).symm.trans hf
      have hr := Option.some.inj hf
      subst hr
      exact U_lv [] rfl J0
    · replace hf := (if_neg c1).symm.trans hf
      refine U_aload_n (n := 10) 0 C dX4_hold_9 rfl rfl rfl ?_
      refine gf_RX4_16 (n := 13) C dX4_hold_10 hf rfl (fun v2 hf => ?_)
      refine U_iload_n (n := 14) 1 C dX4_hold_13 rfl rfl ?_
      refine U_aload_n (n := 15) 0 C dX4_hold_14 rfl rfl rfl ?_
      refine gf_RX4_7 (n := 18) C dX4_hold_15 hf rfl (fun v3 hf => ?_)
      refine U_iload_n (n := 19) 1 C dX4_hold_18 rfl rfl ?_
      refine U_iald (n := 20) C dX4_hold_19 hf rfl (fun v4 hf => ?_)
      refine U_iast (n := 21) C dX4_hold_20 hf rfl (fun h5 hf => ?_)
      refine U_iinc (n := 24) (v := (x1 + 1)) (lv2 := [(1, .int (x1 + 1)), (0, .ref p0)]) 1 C dX4_hold_21 rfl rfl (by decide) rfl rfl ?_
      refine U_goto (n := 0) (tgt := 2) C dX4_hold_24 (by decide) ?_
      exact U_lv [1, 0] rfl (ih hf J0)
theorem rc_X4_hold {o : Nat} {h : Hp} {z} (hf : f_X4_hold o h = some z) : rc 4 h o = some () := by
  unfold f_X4_hold at hf
  exact (bsome hf).choose_spec.1
set_option maxHeartbeats 2000000 in
set_option maxRecDepth 20000 in
theorem M_X4_hold {g : GT} {o : Nat} {h : Hp} {h2 : Hp} (hf : f_X4_hold o h = some h2) : CM g yX4_hold cX4_hold 2 none 6 0 0 [.ref o] h (.inr none) h2 := by
  refine CM_of rfl (fun _ => Nat.le_of_ble_eq_true rfl) (fun Γ C hn0 => ?_)
  have C : Cx g Γ cX4_hold RX4 "hold" 2 none 6 0 0 := C
  generalize hQ : Qe g Γ (.inr none) h2 0 0 = Q
  show U g Γ 2 Q 0 0 0 [(0, .ref o)] [] h
  unfold f_X4_hold at hf
  replace hf := (bsome hf).choose_spec.2
  refine U_iconst (n := 1) (0 : Int32) C dX4_hold_0 kiconst_0 rfl ?_
  refine U_istore_n (n := 2) (lv2 := [(1, .int (0 : Int32)), (0, .ref o)]) C dX4_hold_1 (by decide) rfl rfl ?_
  refine U_join1 (fun h6 => U g Γ 2 Q 0 0 27 [] [] h6) hf (fun h6 hf => ?_) (fun h6 hf J => U_lv [1, 0] rfl (L_X4_hold_2 C hf J))
  have hr := (Option.some.inj hf)
  subst hr
  subst hQ
  exact U_vret C dX4_hold_27 (Nat.le_refl 0) (Nat.le_refl 0)
def l_X4_ends_51 (p0 : Nat) : Nat → Int32 → Hp → Option Hp
  | 0, _, _ => none
  | fuel + 1, x2, h =>
    if (243 : Int32) ≤ x2 then (
      some h
    ) else (
      (fR 4 1 h p0).bind fun v8 =>
      (fI 4 3 h p0).bind fun v9 =>
      (fR 4 2 h p0).bind fun v10 =>
      (aI h v10 x2).bind fun v11 =>
      (wI h v8 (((243 : Int32) * v9) + x2) v11).bind fun h12 =>
      l_X4_ends_51 p0 fuel (x2 + 1) h12
    )
def l_X4_ends_10 (p0 : Nat) : Nat → Int32 → Hp → Option Hp
  | 0, _, _ => none
  | fuel + 1, x2, h =>
    if (729 : Int32) ≤ x2 then (
      some h
    ) else (
      (fR 4 1 h p0).bind fun v19 =>
      (fR 4 1 h p0).bind fun v20 =>
      (aI h v20 (x2 + (243 : Int32))).bind fun v21 =>
      (wI h v19 x2 v21).bind fun h22 =>
      l_X4_ends_10 p0 fuel (x2 + 1) h22
    )
def f_X4_ends (o : Nat) (a1 : Int32) (h : Hp) : Option (Int32 × Hp) :=
  (rc 4 h o).bind fun _ =>
  (fI 4 3 h o).bind fun v1 =>
  (
    if v1 = (4 : Int32) then (
      (l_X4_ends_10 o FU (0 : Int32) h).bind fun h23 =>
      (fI 4 3 h23 o).bind fun v24 =>
      (sF 4 3 (.int (v24 - (1 : Int32))) h23 o).bind fun h25 =>
      some h25
    ) else (
      some h
    )
  ).bind fun h3 =>
  (l_X4_ends_51 o FU (0 : Int32) h3).bind fun h13 =>
  (fI 4 3 h13 o).bind fun v14 =>
  (sF 4 3 (.int (v14 + (1 : Int32))) h13 o).bind fun h15 =>
  bind2 (f_X4_tells o a1 h15) fun v16 h17 =>
  some ((v16, h17))
set_option maxHeartbeats 2000000 in
set_option maxRecDepth 20000 in
theorem L_X4_ends_51 {g : GT} {Γ : CT} {Q : State → Prop} {mc ms : Nat} (C : Cx g Γ cX4_ends RX4 "ends" 3 (some .int) 7 mc ms) {p0 : Nat} {p1 : Int32} : ∀ {fuel : Nat} {x2 : Int32} {h : Hp} {hy : Hp}, l_X4_ends_51 p0 fuel x2 h = some hy → U g Γ 3 Q 0 0 85 [(0, .ref p0), (1, .int p1)] [] hy → U g Γ 3 Q 0 0 51 [(0, .ref p0), (1, .int p1), (2, .int x2)] [] h := by
  intro fuel
  induction fuel with
  | zero =>
    intro x2 h hy hf J0
    simp only [l_X4_ends_51, reduceCtorEq] at hf
  | succ fuel ih =>
    intro x2 h hy hf J0
    rw [l_X4_ends_51] at hf
    refine U_iload_n (n := 52) 2 C dX4_ends_51 rfl rfl ?_
    refine U_sipush (n := 55) (243 : Int32) C dX4_ends_52 ksipush_243 rfl ?_
    refine U_icge (tgt := 85) (n := 58) C dX4_ends_55 (by decide) rfl (fun c7 => ?_) (fun c7 => ?_)
    · replace hf := (if_pos c7).symm.trans hf
      have hr := Option.some.inj hf
      subst hr
      exact U_lv [0, 1] rfl J0
    · replace hf := (if_neg c7).symm.trans hf
      refine U_aload_n (n := 59) 0 C dX4_ends_58 rfl rfl rfl ?_
      refine gf_RX4_13 (n := 62) C dX4_ends_59 hf rfl (fun v8 hf => ?_)
      refine U_sipush (n := 65) (243 : Int32) C dX4_ends_62 ksipush_243 rfl ?_
      refine U_aload_n (n := 66) 0 C dX4_ends_65 rfl rfl rfl ?_
      refine gf_RX4_64 (n := 69) C dX4_ends_66 hf rfl (fun v9 hf => ?_)
      refine U_imul (n := 70) C dX4_ends_69 rfl ?_
      refine U_iload_n (n := 71) 2 C dX4_ends_70 rfl rfl ?_
      refine U_iadd (n := 72) C dX4_ends_71 rfl ?_
      refine U_aload_n (n := 73) 0 C dX4_ends_72 rfl rfl rfl ?_
      refine gf_RX4_16 (n := 76) C dX4_ends_73 hf rfl (fun v10 hf => ?_)
      refine U_iload_n (n := 77) 2 C dX4_ends_76 rfl rfl ?_
      refine U_iald (n := 78) C dX4_ends_77 hf rfl (fun v11 hf => ?_)
      refine U_iast (n := 79) C dX4_ends_78 hf rfl (fun h12 hf => ?_)
      refine U_iinc (n := 82) (v := (x2 + 1)) (lv2 := [(2, .int (x2 + 1)), (0, .ref p0), (1, .int p1)]) 2 C dX4_ends_79 rfl rfl (by decide) rfl rfl ?_
      refine U_goto (n := 0) (tgt := 51) C dX4_ends_82 (by decide) ?_
      exact U_lv [1, 2, 0] rfl (ih hf J0)
set_option maxHeartbeats 2000000 in
set_option maxRecDepth 20000 in
theorem L_X4_ends_10 {g : GT} {Γ : CT} {Q : State → Prop} {mc ms : Nat} (C : Cx g Γ cX4_ends RX4 "ends" 3 (some .int) 7 mc ms) {p0 : Nat} {p1 : Int32} : ∀ {fuel : Nat} {x2 : Int32} {h : Hp} {hy : Hp}, l_X4_ends_10 p0 fuel x2 h = some hy → U g Γ 3 Q 0 0 39 [(0, .ref p0), (1, .int p1)] [] hy → U g Γ 3 Q 0 0 10 [(0, .ref p0), (1, .int p1), (2, .int x2)] [] h := by
  intro fuel
  induction fuel with
  | zero =>
    intro x2 h hy hf J0
    simp only [l_X4_ends_10, reduceCtorEq] at hf
  | succ fuel ih =>
    intro x2 h hy hf J0
    rw [l_X4_ends_10] at hf
    refine U_iload_n (n := 11) 2 C dX4_ends_10 rfl rfl ?_
    refine U_sipush (n := 14) (729 : Int32) C dX4_ends_11 ksipush_729 rfl ?_
    refine U_icge (tgt := 39) (n := 17) C dX4_ends_14 (by decide) rfl (fun c18 => ?_) (fun c18 => ?_)
    · replace hf := (if_pos c18).symm.trans hf
      have hr := Option.some.inj hf
      subst hr
      exact U_lv [0, 1] rfl J0
    · replace hf := (if_neg c18).symm.trans hf
      refine U_aload_n (n := 18) 0 C dX4_ends_17 rfl rfl rfl ?_
      refine gf_RX4_13 (n := 21) C dX4_ends_18 hf rfl (fun v19 hf => ?_)
      refine U_iload_n (n := 22) 2 C dX4_ends_21 rfl rfl ?_
      refine U_aload_n (n := 23) 0 C dX4_ends_22 rfl rfl rfl ?_
      refine gf_RX4_13 (n := 26) C dX4_ends_23 hf rfl (fun v20 hf => ?_)
      refine U_iload_n (n := 27) 2 C dX4_ends_26 rfl rfl ?_
      refine U_sipush (n := 30) (243 : Int32) C dX4_ends_27 ksipush_243 rfl ?_
      refine U_iadd (n := 31) C dX4_ends_30 rfl ?_
      refine U_iald (n := 32) C dX4_ends_31 hf rfl (fun v21 hf => ?_)
      refine U_iast (n := 33) C dX4_ends_32 hf rfl (fun h22 hf => ?_)
      refine U_iinc (n := 36) (v := (x2 + 1)) (lv2 := [(2, .int (x2 + 1)), (0, .ref p0), (1, .int p1)]) 2 C dX4_ends_33 rfl rfl (by decide) rfl rfl ?_
      refine U_goto (n := 0) (tgt := 10) C dX4_ends_36 (by decide) ?_
      exact U_lv [1, 2, 0] rfl (ih hf J0)
theorem rc_X4_ends {o : Nat} {a1 : Int32} {h : Hp} {z} (hf : f_X4_ends o a1 h = some z) : rc 4 h o = some () := by
  unfold f_X4_ends at hf
  exact (bsome hf).choose_spec.1
set_option maxHeartbeats 2000000 in
set_option maxRecDepth 20000 in
theorem M_X4_ends {g : GT} {o : Nat} {a1 : Int32} {h : Hp} {r : Int32} {h2 : Hp} (hf : f_X4_ends o a1 h = some (r, h2)) : CM g yX4_ends cX4_ends 3 (some .int) 7 0 0 [.ref o, .int a1] h (.inr (some (.int r))) h2 := by
  refine CM_of rfl (fun _ => Nat.le_of_ble_eq_true rfl) (fun Γ C hn0 => ?_)
  have C : Cx g Γ cX4_ends RX4 "ends" 3 (some .int) 7 0 0 := C
  generalize hQ : Qe g Γ (.inr (some (.int r))) h2 0 0 = Q
  show U g Γ 3 Q 0 0 0 [(0, .ref o), (1, .int a1)] [] h
  unfold f_X4_ends at hf
  replace hf := (bsome hf).choose_spec.2
  refine U_aload_n (n := 1) 0 C dX4_ends_0 rfl rfl rfl ?_
  refine gf_RX4_64 (n := 4) C dX4_ends_1 hf rfl (fun v1 hf => ?_)
  refine U_iconst (n := 5) (4 : Int32) C dX4_ends_4 kiconst_4 rfl ?_
  refine U_join1 (fun h3 => U g Γ 3 Q 0 0 49 [(0, .ref o), (1, .int a1)] [] h3) hf (fun h3 hf => ?_) (fun h3 hf J5 => ?_)
  · skip
    refine U_iconst (n := 50) (0 : Int32) C dX4_ends_49 kiconst_0 rfl ?_
    refine U_istore_n (n := 51) (lv2 := [(2, .int (0 : Int32)), (0, .ref o), (1, .int a1)]) C dX4_ends_50 (by decide) rfl rfl ?_
    refine U_join1 (fun h13 => U g Γ 3 Q 0 0 85 [(0, .ref o), (1, .int a1)] [] h13) hf (fun h13 hf => ?_) (fun h13 hf J => U_lv [1, 2, 0] rfl (L_X4_ends_51 C hf J))
    refine U_aload_n (n := 86) 0 C dX4_ends_85 rfl rfl rfl ?_
    refine U_dup (n := 87) C dX4_ends_86 rfl rfl ?_
    refine gf_RX4_64 (n := 90) C dX4_ends_87 hf rfl (fun v14 hf => ?_)
    refine U_iconst (n := 91) (1 : Int32) C dX4_ends_90 kiconst_1 rfl ?_
    refine U_iadd (n := 92) C dX4_ends_91 rfl ?_
    refine pf_RX4_64 (n := 95) C dX4_ends_92 hf rfl (fun h15 hf => ?_)
    refine U_aload_n (n := 96) 0 C dX4_ends_95 rfl rfl rfl ?_
    refine U_iload_n (n := 97) 1 C dX4_ends_96 rfl rfl ?_
    obtain ⟨v16, h17, ev16, hf⟩ := bsome2 hf
    refine cv_RX4_67 (n := 100) C dX4_ends_97 (av := [.int a1]) rfl (rc_X4_tells ev16) (M_X4_tells ev16) (Nat.le_of_ble_eq_true rfl) (Nat.zero_le _) (Nat.zero_le _) (Nat.le_of_ble_eq_true rfl) rfl ?_
    obtain ⟨hr1, hr2⟩ := Prod.mk.inj (Option.some.inj hf)
    subst hr1; subst hr2
    subst hQ
    exact U_iret C dX4_ends_100 (Nat.le_refl 0) (Nat.le_refl 0)
  · skip
    refine U_icne (tgt := 49) (n := 8) C dX4_ends_5 (by decide) rfl (fun c2 => ?_) (fun c2 => ?_)
    · replace hf := (if_pos c2).symm.trans hf
      refine U_iconst (n := 9) (0 : Int32) C dX4_ends_8 kiconst_0 rfl ?_
      refine U_istore_n (n := 10) (lv2 := [(2, .int (0 : Int32)), (0, .ref o), (1, .int a1)]) C dX4_ends_9 (by decide) rfl rfl ?_
      refine U_join1 (fun h23 => U g Γ 3 Q 0 0 39 [(0, .ref o), (1, .int a1)] [] h23) hf (fun h23 hf => ?_) (fun h23 hf J => U_lv [1, 2, 0] rfl (L_X4_ends_10 C hf J))
      refine U_aload_n (n := 40) 0 C dX4_ends_39 rfl rfl rfl ?_
      refine U_dup (n := 41) C dX4_ends_40 rfl rfl ?_
      refine gf_RX4_64 (n := 44) C dX4_ends_41 hf rfl (fun v24 hf => ?_)
      refine U_iconst (n := 45) (1 : Int32) C dX4_ends_44 kiconst_1 rfl ?_
      refine U_isub (n := 46) C dX4_ends_45 rfl ?_
      refine pf_RX4_64 (n := 49) C dX4_ends_46 hf rfl (fun h25 hf => ?_)
      have hr := Option.some.inj hf
      subst hr
      exact U_lv [0, 1] rfl J5
    · replace hf := (if_neg c2).symm.trans hf
      have hr := Option.some.inj hf
      subst hr
      exact U_lv [0, 1] rfl J5
def f_X4_get (o : Nat) (a1 : Int32) (a2 : Int32) (h : Hp) : Option Int32 :=
  (rc 4 h o).bind fun _ =>
  (fR 4 0 h o).bind fun v1 =>
  (aI h v1 (((3 : Int32) + ((4 : Int32) * a1)) + a2)).bind fun v2 =>
  some (v2)
theorem rc_X4_get {o : Nat} {a1 : Int32} {a2 : Int32} {h : Hp} {z} (hf : f_X4_get o a1 a2 h = some z) : rc 4 h o = some () := by
  unfold f_X4_get at hf
  exact (bsome hf).choose_spec.1
set_option maxHeartbeats 2000000 in
set_option maxRecDepth 20000 in
theorem M_X4_get {g : GT} {o : Nat} {a1 : Int32} {a2 : Int32} {h : Hp} {r : Int32} (hf : f_X4_get o a1 a2 h = some r) : CM g yX4_get cX4_get 3 (some .int) 6 0 0 [.ref o, .int a1, .int a2] h (.inr (some (.int r))) h := by
  refine CM_of rfl (fun _ => Nat.le_of_ble_eq_true rfl) (fun Γ C hn0 => ?_)
  have C : Cx g Γ cX4_get RX4 "get" 3 (some .int) 6 0 0 := C
  generalize hQ : Qe g Γ (.inr (some (.int r))) h 0 0 = Q
  show U g Γ 3 Q 0 0 0 [(0, .ref o), (1, .int a1), (2, .int a2)] [] h
  unfold f_X4_get at hf
  replace hf := (bsome hf).choose_spec.2
  refine U_aload_n (n := 1) 0 C dX4_get_0 rfl rfl rfl ?_
  refine gf_RX4_7 (n := 4) C dX4_get_1 hf rfl (fun v1 hf => ?_)
  refine U_iconst (n := 5) (3 : Int32) C dX4_get_4 kiconst_3 rfl ?_
  refine U_iconst (n := 6) (4 : Int32) C dX4_get_5 kiconst_4 rfl ?_
  refine U_iload_n (n := 7) 1 C dX4_get_6 rfl rfl ?_
  refine U_imul (n := 8) C dX4_get_7 rfl ?_
  refine U_iadd (n := 9) C dX4_get_8 rfl ?_
  refine U_iload_n (n := 10) 2 C dX4_get_9 rfl rfl ?_
  refine U_iadd (n := 11) C dX4_get_10 rfl ?_
  refine U_iald (n := 12) C dX4_get_11 hf rfl (fun v2 hf => ?_)
  have hr := (Option.some.inj hf)
  subst hr
  subst hQ
  exact U_iret C dX4_get_12 (Nat.le_refl 0) (Nat.le_refl 0)
def f_X4_isPoint (o : Nat) (a1 : Int32) (h : Hp) : Option Int32 :=
  (rc 4 h o).bind fun _ =>
  (fR 4 0 h o).bind fun v1 =>
  (aI h v1 (0 : Int32)).bind fun v2 =>
  (f_X4_in a1 (0 : Int32) (v2 - (1 : Int32))).bind fun v3 =>
  (gB v3).bind fun _ =>
  some (v3)
theorem rc_X4_isPoint {o : Nat} {a1 : Int32} {h : Hp} {z} (hf : f_X4_isPoint o a1 h = some z) : rc 4 h o = some () := by
  unfold f_X4_isPoint at hf
  exact (bsome hf).choose_spec.1
set_option maxHeartbeats 2000000 in
set_option maxRecDepth 20000 in
theorem M_X4_isPoint {g : GT} {o : Nat} {a1 : Int32} {h : Hp} {r : Int32} (hf : f_X4_isPoint o a1 h = some r) : CM g yX4_isPoint cX4_isPoint 2 (some .boolean) 7 0 0 [.ref o, .int a1] h (.inr (some (.int r))) h := by
  refine CM_of rfl (fun _ => Nat.le_of_ble_eq_true rfl) (fun Γ C hn0 => ?_)
  have C : Cx g Γ cX4_isPoint RX4 "isPoint" 2 (some .boolean) 7 0 0 := C
  generalize hQ : Qe g Γ (.inr (some (.int r))) h 0 0 = Q
  show U g Γ 2 Q 0 0 0 [(0, .ref o), (1, .int a1)] [] h
  unfold f_X4_isPoint at hf
  replace hf := (bsome hf).choose_spec.2
  refine U_iload_n (n := 1) 1 C dX4_isPoint_0 rfl rfl ?_
  refine U_iconst (n := 2) (0 : Int32) C dX4_isPoint_1 kiconst_0 rfl ?_
  refine U_aload_n (n := 3) 0 C dX4_isPoint_2 rfl rfl rfl ?_
  refine gf_RX4_7 (n := 6) C dX4_isPoint_3 hf rfl (fun v1 hf => ?_)
  refine U_iconst (n := 7) (0 : Int32) C dX4_isPoint_6 kiconst_0 rfl ?_
  refine U_iald (n := 8) C dX4_isPoint_7 hf rfl (fun v2 hf => ?_)
  refine U_iconst (n := 9) (1 : Int32) C dX4_isPoint_8 kiconst_1 rfl ?_
  refine U_isub (n := 10) C dX4_isPoint_9 rfl ?_
  obtain ⟨v3, ev3, hf⟩ := bsome hf
  refine cv_RX4_91 (n := 13) C dX4_isPoint_10 (av := [.int a1, .int (0 : Int32), .int (v2 - (1 : Int32))]) rfl (M_X4_in ev3) (Nat.le_of_ble_eq_true rfl) (Nat.zero_le _) (Nat.zero_le _) (Nat.le_of_ble_eq_true rfl) rfl ?_
  obtain ⟨_, hz, hf⟩ := bsome hf
  replace hz := gB_spec hz
  have hr := (Option.some.inj hf)
  subst hr
  subst hQ
  exact U_zret C dX4_isPoint_13 hz (Nat.le_refl 0) (Nat.le_refl 0)
def f_X4_arePoints (o : Nat) (a1 : Int32) (a2 : Int32) (a3 : Int32) (h : Hp) : Option Int32 :=
  (rc 4 h o).bind fun _ =>
  (f_X4_isPoint o a1 h).bind fun v1 =>
  if v1 = 0 then (
    some ((0 : Int32))
  ) else (
    (f_X4_isPoint o a2 h).bind fun v3 =>
    if v3 = 0 then (
      some ((0 : Int32))
    ) else (
      (f_X4_isPoint o a3 h).bind fun v5 =>
      if v5 = 0 then (
        some ((0 : Int32))
      ) else (
        some ((1 : Int32))
      )
    )
  )
theorem rc_X4_arePoints {o : Nat} {a1 : Int32} {a2 : Int32} {a3 : Int32} {h : Hp} {z} (hf : f_X4_arePoints o a1 a2 a3 h = some z) : rc 4 h o = some () := by
  unfold f_X4_arePoints at hf
  exact (bsome hf).choose_spec.1
set_option maxHeartbeats 2000000 in
set_option maxRecDepth 20000 in
theorem M_X4_arePoints {g : GT} {o : Nat} {a1 : Int32} {a2 : Int32} {a3 : Int32} {h : Hp} {r : Int32} (hf : f_X4_arePoints o a1 a2 a3 h = some r) : CM g yX4_arePoints cX4_arePoints 4 (some .boolean) 8 0 0 [.ref o, .int a1, .int a2, .int a3] h (.inr (some (.int r))) h := by
  refine CM_of rfl (fun _ => Nat.le_of_ble_eq_true rfl) (fun Γ C hn0 => ?_)
  have C : Cx g Γ cX4_arePoints RX4 "arePoints" 4 (some .boolean) 8 0 0 := C
  generalize hQ : Qe g Γ (.inr (some (.int r))) h 0 0 = Q
  show U g Γ 4 Q 0 0 0 [(0, .ref o), (1, .int a1), (2, .int a2), (3, .int a3)] [] h
  unfold f_X4_arePoints at hf
  replace hf := (bsome hf).choose_spec.2
  refine U_aload_n (n := 1) 0 C dX4_arePoints_0 rfl rfl rfl ?_
  refine U_iload_n (n := 2) 1 C dX4_arePoints_1 rfl rfl ?_
  obtain ⟨v1, ev1, hf⟩ := bsome hf
  refine cv_RX4_95 (n := 5) C dX4_arePoints_2 (av := [.int a1]) rfl (rc_X4_isPoint ev1) (M_X4_isPoint ev1) (Nat.le_of_ble_eq_true rfl) (Nat.zero_le _) (Nat.zero_le _) (Nat.le_of_ble_eq_true rfl) rfl ?_
  refine U_ifeq (tgt := 28) (n := 8) C dX4_arePoints_5 (by decide) rfl (fun c2 => ?_) (fun c2 => ?_)
  · replace hf := (if_pos c2).symm.trans hf
    refine U_iconst (n := 29) (0 : Int32) C dX4_arePoints_28 kiconst_0 rfl ?_
    have hr := (Option.some.inj hf)
    subst hr
    subst hQ
    exact U_zret C dX4_arePoints_29 (Or.inl rfl) (Nat.le_refl 0) (Nat.le_refl 0)
  · replace hf := (if_neg c2).symm.trans hf
    refine U_aload_n (n := 9) 0 C dX4_arePoints_8 rfl rfl rfl ?_
    refine U_iload_n (n := 10) 2 C dX4_arePoints_9 rfl rfl ?_
    obtain ⟨v3, ev3, hf⟩ := bsome hf
    refine cv_RX4_95 (n := 13) C dX4_arePoints_10 (av := [.int a2]) rfl (rc_X4_isPoint ev3) (M_X4_isPoint ev3) (Nat.le_of_ble_eq_true rfl) (Nat.zero_le _) (Nat.zero_le _) (Nat.le_of_ble_eq_true rfl) rfl ?_
    refine U_ifeq (tgt := 28) (n := 16) C dX4_arePoints_13 (by decide) rfl (fun c4 => ?_) (fun c4 => ?_)
    · replace hf := (if_pos c4).symm.trans hf
      refine U_iconst (n := 29) (0 : Int32) C dX4_arePoints_28 kiconst_0 rfl ?_
      have hr := (Option.some.inj hf)
      subst hr
      subst hQ
      exact U_zret C dX4_arePoints_29 (Or.inl rfl) (Nat.le_refl 0) (Nat.le_refl 0)
    · replace hf := (if_neg c4).symm.trans hf
      refine U_aload_n (n := 17) 0 C dX4_arePoints_16 rfl rfl rfl ?_
      refine U_iload_n (n := 18) 3 C dX4_arePoints_17 rfl rfl ?_
      obtain ⟨v5, ev5, hf⟩ := bsome hf
      refine cv_RX4_95 (n := 21) C dX4_arePoints_18 (av := [.int a3]) rfl (rc_X4_isPoint ev5) (M_X4_isPoint ev5) (Nat.le_of_ble_eq_true rfl) (Nat.zero_le _) (Nat.zero_le _) (Nat.le_of_ble_eq_true rfl) rfl ?_
      refine U_ifeq (tgt := 28) (n := 24) C dX4_arePoints_21 (by decide) rfl (fun c6 => ?_) (fun c6 => ?_)
      · replace hf := (if_pos c6).symm.trans hf
        refine U_iconst (n := 29) (0 : Int32) C dX4_arePoints_28 kiconst_0 rfl ?_
        have hr := (Option.some.inj hf)
        subst hr
        subst hQ
        exact U_zret C dX4_arePoints_29 (Or.inl rfl) (Nat.le_refl 0) (Nat.le_refl 0)
      · replace hf := (if_neg c6).symm.trans hf
        refine U_iconst (n := 25) (1 : Int32) C dX4_arePoints_24 kiconst_1 rfl ?_
        refine U_goto (n := 0) (tgt := 29) C dX4_arePoints_25 (by decide) ?_
        have hr := (Option.some.inj hf)
        subst hr
        subst hQ
        exact U_zret C dX4_arePoints_29 (Or.inr rfl) (Nat.le_refl 0) (Nat.le_refl 0)
def f_X4_differ (a0 : Int32) (a1 : Int32) (a2 : Int32) : Option Int32 :=
  if a0 = a1 then (
    some ((0 : Int32))
  ) else (
    if a0 = a2 then (
      some ((0 : Int32))
    ) else (
      if a1 = a2 then (
        some ((0 : Int32))
      ) else (
        some ((1 : Int32))
      )
    )
  )
set_option maxHeartbeats 2000000 in
set_option maxRecDepth 20000 in
theorem M_X4_differ {g : GT} {a0 : Int32} {a1 : Int32} {a2 : Int32} {h : Hp} {r : Int32} (hf : f_X4_differ a0 a1 a2 = some r) : CM g yX4_differ cX4_differ 3 (some .boolean) 6 0 0 [.int a0, .int a1, .int a2] h (.inr (some (.int r))) h := by
  refine CM_of rfl (fun _ => Nat.le_of_ble_eq_true rfl) (fun Γ C hn0 => ?_)
  have C : Cx g Γ cX4_differ RX4 "differ" 3 (some .boolean) 6 0 0 := C
  generalize hQ : Qe g Γ (.inr (some (.int r))) h 0 0 = Q
  show U g Γ 3 Q 0 0 0 [(0, .int a0), (1, .int a1), (2, .int a2)] [] h
  unfold f_X4_differ at hf
  refine U_iload_n (n := 1) 0 C dX4_differ_0 rfl rfl ?_
  refine U_iload_n (n := 2) 1 C dX4_differ_1 rfl rfl ?_
  refine U_iceq (tgt := 19) (n := 5) C dX4_differ_2 (by decide) rfl (fun c1 => ?_) (fun c1 => ?_)
  · replace hf := (if_pos c1).symm.trans hf
    refine U_iconst (n := 20) (0 : Int32) C dX4_differ_19 kiconst_0 rfl ?_
    have hr := (Option.some.inj hf)
    subst hr
    subst hQ
    exact U_zret C dX4_differ_20 (Or.inl rfl) (Nat.le_refl 0) (Nat.le_refl 0)
  · replace hf := (if_neg c1).symm.trans hf
    refine U_iload_n (n := 6) 0 C dX4_differ_5 rfl rfl ?_
    refine U_iload_n (n := 7) 2 C dX4_differ_6 rfl rfl ?_
    refine U_iceq (tgt := 19) (n := 10) C dX4_differ_7 (by decide) rfl (fun c2 => ?_) (fun c2 => ?_)
    · replace hf := (if_pos c2).symm.trans hf
      refine U_iconst (n := 20) (0 : Int32) C dX4_differ_19 kiconst_0 rfl ?_
      have hr := (Option.some.inj hf)
      subst hr
      subst hQ
      exact U_zret C dX4_differ_20 (Or.inl rfl) (Nat.le_refl 0) (Nat.le_refl 0)
    · replace hf := (if_neg c2).symm.trans hf
      refine U_iload_n (n := 11) 1 C dX4_differ_10 rfl rfl ?_
      refine U_iload_n (n := 12) 2 C dX4_differ_11 rfl rfl ?_
      refine U_iceq (tgt := 19) (n := 15) C dX4_differ_12 (by decide) rfl (fun c3 => ?_) (fun c3 => ?_)
      · replace hf := (if_pos c3).symm.trans hf
        refine U_iconst (n := 20) (0 : Int32) C dX4_differ_19 kiconst_0 rfl ?_
        have hr := (Option.some.inj hf)
        subst hr
        subst hQ
        exact U_zret C dX4_differ_20 (Or.inl rfl) (Nat.le_refl 0) (Nat.le_refl 0)
      · replace hf := (if_neg c3).symm.trans hf
        refine U_iconst (n := 16) (1 : Int32) C dX4_differ_15 kiconst_1 rfl ?_
        refine U_goto (n := 0) (tgt := 20) C dX4_differ_16 (by decide) ?_
        have hr := (Option.some.inj hf)
        subst hr
        subst hQ
        exact U_zret C dX4_differ_20 (Or.inr rfl) (Nat.le_refl 0) (Nat.le_refl 0)
def f_X4_tripleOf (o : Nat) (a1 : Int32) (a2 : Int32) (a3 : Int32) (h : Hp) : Option Int32 :=
  (rc 4 h o).bind fun _ =>
  (
    if a2 ≤ a1 then (
      if a3 ≤ a2 then (
        some a3
      ) else (
        some a2
      )
    ) else (
      if a3 ≤ a1 then (
        some a3
      ) else (
        some a1
      )
    )
  ).bind fun v2 =>
  (
    if a1 ≤ a2 then (
      if a2 ≤ a3 then (
        some a3
      ) else (
        some a2
      )
    ) else (
      if a1 ≤ a3 then (
        some a3
      ) else (
        some a1
      )
    )
  ).bind fun v7 =>
  (fR 4 8 h o).bind fun v11 =>
  (aI h v11 ((((64 : Int32) * v2) + ((8 : Int32) * ((((a1 + a2) + a3) - v2) - v7))) + v7)).bind fun v12 =>
  some (v12)
theorem rc_X4_tripleOf {o : Nat} {a1 : Int32} {a2 : Int32} {a3 : Int32} {h : Hp} {z} (hf : f_X4_tripleOf o a1 a2 a3 h = some z) : rc 4 h o = some () := by
  unfold f_X4_tripleOf at hf
  exact (bsome hf).choose_spec.1
set_option maxHeartbeats 2000000 in
set_option maxRecDepth 20000 in
theorem M_X4_tripleOf {g : GT} {o : Nat} {a1 : Int32} {a2 : Int32} {a3 : Int32} {h : Hp} {r : Int32} (hf : f_X4_tripleOf o a1 a2 a3 h = some r) : CM g yX4_tripleOf cX4_tripleOf 6 (some .int) 6 0 0 [.ref o, .int a1, .int a2, .int a3] h (.inr (some (.int r))) h := by
  refine CM_of rfl (fun _ => Nat.le_of_ble_eq_true rfl) (fun Γ C hn0 => ?_)
  have C : Cx g Γ cX4_tripleOf RX4 "tripleOf" 6 (some .int) 6 0 0 := C
  generalize hQ : Qe g Γ (.inr (some (.int r))) h 0 0 = Q
  show U g Γ 6 Q 0 0 0 [(0, .ref o), (1, .int a1), (2, .int a2), (3, .int a3)] [] h
  unfold f_X4_tripleOf at hf
  replace hf := (bsome hf).choose_spec.2
  refine U_iload_n (n := 1) 1 C dX4_tripleOf_0 rfl rfl ?_
  refine U_iload_n (n := 2) 2 C dX4_tripleOf_1 rfl rfl ?_
  refine U_join1 (fun v2 => U g Γ 6 Q 0 0 28 [(0, .ref o), (1, .int a1), (2, .int a2), (3, .int a3)] [.int v2] h) hf (fun v2 hf => ?_) (fun v2 hf J4 => ?_)
  · skip
    refine U_istore (n := 30) (lv2 := [(4, .int v2), (0, .ref o), (1, .int a1), (2, .int a2), (3, .int a3)]) C dX4_tripleOf_28 (by decide) rfl rfl ?_
    refine U_iload_n (n := 31) 2 C dX4_tripleOf_30 rfl rfl ?_
    refine U_iload_n (n := 32) 3 C dX4_tripleOf_31 rfl rfl ?_
    refine U_join1 (fun v7 => U g Γ 6 Q 0 0 58 [(0, .ref o), (1, .int a1), (2, .int a2), (3, .int a3), (4, .int v2)] [.int v7] h) hf (fun v7 hf => ?_) (fun v7 hf J9 => ?_)
    · skip
      refine U_istore (n := 60) (lv2 := [(5, .int v7), (0, .ref o), (1, .int a1), (2, .int a2), (3, .int a3), (4, .int v2)]) C dX4_tripleOf_58 (by decide) rfl rfl ?_
      refine U_aload_n (n := 61) 1 C dX4_tripleOf_60 rfl rfl rfl ?_
      refine gf_RX4_25 (n := 64) C dX4_tripleOf_61 hf rfl (fun v11 hf => ?_)
      refine U_bipush (n := 66) (64 : Int32) C dX4_tripleOf_64 kbipush_64 rfl ?_
      refine U_iload (n := 68) 5 C dX4_tripleOf_66 rfl rfl ?_
      refine U_imul (n := 69) C dX4_tripleOf_68 rfl ?_
      refine U_bipush (n := 71) (8 : Int32) C dX4_tripleOf_69 kbipush_8 rfl ?_
      refine U_iload_n (n := 72) 2 C dX4_tripleOf_71 rfl rfl ?_
      refine U_iload_n (n := 73) 3 C dX4_tripleOf_72 rfl rfl ?_
      refine U_iadd (n := 74) C dX4_tripleOf_73 rfl ?_
      refine U_iload_n (n := 75) 4 C dX4_tripleOf_74 rfl rfl ?_
      refine U_iadd (n := 76) C dX4_tripleOf_75 rfl ?_
      refine U_iload (n := 78) 5 C dX4_tripleOf_76 rfl rfl ?_
      refine U_isub (n := 79) C dX4_tripleOf_78 rfl ?_
      refine U_iload (n := 81) 0 C dX4_tripleOf_79 rfl rfl ?_
      refine U_isub (n := 82) C dX4_tripleOf_81 rfl ?_
      refine U_imul (n := 83) C dX4_tripleOf_82 rfl ?_
      refine U_iadd (n := 84) C dX4_tripleOf_83 rfl ?_
      refine U_iload (n := 86) 0 C dX4_tripleOf_84 rfl rfl ?_
      refine U_iadd (n := 87) C dX4_tripleOf_86 rfl ?_
      refine U_iald (n := 88) C dX4_tripleOf_87 hf rfl (fun v12 hf => ?_)
      have hr := (Option.some.inj hf)
      subst hr
      subst hQ
      exact U_iret C dX4_tripleOf_88 (Nat.le_refl 0) (Nat.le_refl 0)
    · skip
      refine U_icle (tgt := 48) (n := 35) C dX4_tripleOf_32 (by decide) rfl (fun c6 => ?_) (fun c6 => ?_)
      · replace hf := (if_pos c6).symm.trans hf
        refine U_iload_n (n := 49) 3 C dX4_tripleOf_48 rfl rfl ?_
        refine U_iload_n (n := 50) 4 C dX4_tripleOf_49 rfl rfl ?_
        refine U_icle (tgt := 57) (n := 53) C dX4_tripleOf_50 (by decide) rfl (fun c13 => ?_) (fun c13 => ?_)
        · replace hf := (if_pos c13).symm.trans hf
          refine U_iload_n (n := 58) 4 C dX4_tripleOf_57 rfl rfl ?_
          have hr := Option.some.inj hf
          subst hr
          exact U_lv [1, 2, 3, 4, 0] rfl J9
        · replace hf := (if_neg c13).symm.trans hf
          refine U_iload_n (n := 54) 3 C dX4_tripleOf_53 rfl rfl ?_
          refine U_goto (n := 0) (tgt := 58) C dX4_tripleOf_54 (by decide) ?_
          have hr := Option.some.inj hf
          subst hr
          exact U_lv [1, 2, 3, 4, 0] rfl J9
      · replace hf := (if_neg c6).symm.trans hf
        refine U_iload_n (n := 36) 2 C dX4_tripleOf_35 rfl rfl ?_
        refine U_iload_n (n := 37) 4 C dX4_tripleOf_36 rfl rfl ?_
        refine U_icle (tgt := 44) (n := 40) C dX4_tripleOf_37 (by decide) rfl (fun c14 => ?_) (fun c14 => ?_)
        · replace hf := (if_pos c14).symm.trans hf
          refine U_iload_n (n := 45) 4 C dX4_tripleOf_44 rfl rfl ?_
          refine U_goto (n := 0) (tgt := 58) C dX4_tripleOf_45 (by decide) ?_
          have hr := Option.some.inj hf
          subst hr
          exact U_lv [1, 2, 3, 4, 0] rfl J9
        · replace hf := (if_neg c14).symm.trans hf
          refine U_iload_n (n := 41) 2 C dX4_tripleOf_40 rfl rfl ?_
          refine U_goto (n := 0) (tgt := 58) C dX4_tripleOf_41 (by decide) ?_
          have hr := Option.some.inj hf
          subst hr
          exact U_lv [1, 2, 3, 4, 0] rfl J9
  · skip
    refine U_icge (tgt := 18) (n := 5) C dX4_tripleOf_2 (by decide) rfl (fun c1 => ?_) (fun c1 => ?_)
    · replace hf := (if_pos c1).symm.trans hf
      refine U_iload_n (n := 19) 2 C dX4_tripleOf_18 rfl rfl ?_
      refine U_iload_n (n := 20) 3 C dX4_tripleOf_19 rfl rfl ?_
      refine U_icge (tgt := 27) (n := 23) C dX4_tripleOf_20 (by decide) rfl (fun c15 => ?_) (fun c15 => ?_)
      · replace hf := (if_pos c15).symm.trans hf
        refine U_iload_n (n := 28) 3 C dX4_tripleOf_27 rfl rfl ?_
        have hr := Option.some.inj hf
        subst hr
        exact U_lv [0, 1, 2, 3] rfl J4
      · replace hf := (if_neg c15).symm.trans hf
        refine U_iload_n (n := 24) 2 C dX4_tripleOf_23 rfl rfl ?_
        refine U_goto (n := 0) (tgt := 28) C dX4_tripleOf_24 (by decide) ?_
        have hr := Option.some.inj hf
        subst hr
        exact U_lv [0, 1, 2, 3] rfl J4
    · replace hf := (if_neg c1).symm.trans hf
      refine U_iload_n (n := 6) 1 C dX4_tripleOf_5 rfl rfl ?_
      refine U_iload_n (n := 7) 3 C dX4_tripleOf_6 rfl rfl ?_
      refine U_icge (tgt := 14) (n := 10) C dX4_tripleOf_7 (by decide) rfl (fun c16 => ?_) (fun c16 => ?_)
      · replace hf := (if_pos c16).symm.trans hf
        refine U_iload_n (n := 15) 3 C dX4_tripleOf_14 rfl rfl ?_
        refine U_goto (n := 0) (tgt := 28) C dX4_tripleOf_15 (by decide) ?_
        have hr := Option.some.inj hf
        subst hr
        exact U_lv [0, 1, 2, 3] rfl J4
      · replace hf := (if_neg c16).symm.trans hf
        refine U_iload_n (n := 11) 1 C dX4_tripleOf_10 rfl rfl ?_
        refine U_goto (n := 0) (tgt := 28) C dX4_tripleOf_11 (by decide) ?_
        have hr := Option.some.inj hf
        subst hr
        exact U_lv [0, 1, 2, 3] rfl J4
def f_X4_parity (a0 : Int32) (a1 : Int32) (a2 : Int32) : Option Int32 :=
  (
    if a0 ≤ a1 then (
      some ((0 : Int32))
    ) else (
      some ((1 : Int32))
    )
  ).bind fun v2 =>
  (
    if a0 ≤ a2 then (
      some ((0 : Int32))
    ) else (
      some ((1 : Int32))
    )
  ).bind fun v7 =>
  (
    if a1 ≤ a2 then (
      some ((0 : Int32))
    ) else (
      some ((1 : Int32))
    )
  ).bind fun v12 =>
  if (((v2 + v7) + v12) - ((v2 + v7) + v12) / (2 : Int32) * (2 : Int32)) = 0 then (
    some ((1 : Int32))
  ) else (
    some ((-1 : Int32))
  )
set_option maxHeartbeats 2000000 in
set_option maxRecDepth 20000 in
theorem M_X4_parity {g : GT} {a0 : Int32} {a1 : Int32} {a2 : Int32} {h : Hp} {r : Int32} (hf : f_X4_parity a0 a1 a2 = some r) : CM g yX4_parity cX4_parity 4 (some .int) 6 0 0 [.int a0, .int a1, .int a2] h (.inr (some (.int r))) h := by
  refine CM_of rfl (fun _ => Nat.le_of_ble_eq_true rfl) (fun Γ C hn0 => ?_)
  have C : Cx g Γ cX4_parity RX4 "parity" 4 (some .int) 6 0 0 := C
  generalize hQ : Qe g Γ (.inr (some (.int r))) h 0 0 = Q
  show U g Γ 4 Q 0 0 0 [(0, .int a0), (1, .int a1), (2, .int a2)] [] h
  unfold f_X4_parity at hf
  refine U_iload_n (n := 1) 0 C dX4_parity_0 rfl rfl ?_
  refine U_iload_n (n := 2) 1 C dX4_parity_1 rfl rfl ?_
  refine U_join1 (fun v2 => U g Γ 4 Q 0 0 10 [(0, .int a0), (1, .int a1), (2, .int a2)] [.int v2] h) hf (fun v2 hf => ?_) (fun v2 hf J4 => ?_)
  · skip
    refine U_iload_n (n := 11) 0 C dX4_parity_10 rfl rfl ?_
    refine U_iload_n (n := 12) 2 C dX4_parity_11 rfl rfl ?_
    refine U_join1 (fun v7 => U g Γ 4 Q 0 0 20 [(1, .int a1), (2, .int a2)] [.int v7, .int v2] h) hf (fun v7 hf => ?_) (fun v7 hf J9 => ?_)
    · skip
      refine U_iadd (n := 21) C dX4_parity_20 rfl ?_
      refine U_iload_n (n := 22) 0 C dX4_parity_21 rfl rfl ?_
      refine U_iload_n (n := 23) 1 C dX4_parity_22 rfl rfl ?_
      refine U_join1 (fun v12 => U g Γ 4 Q 0 0 31 [] [.int v12, .int (v2 + v7)] h) hf (fun v12 hf => ?_) (fun v12 hf J14 => ?_)
      · skip
        refine U_iadd (n := 32) C dX4_parity_31 rfl ?_
        refine U_istore_n (n := 33) (lv2 := [(3, .int ((v2 + v7) + v12))]) C dX4_parity_32 (by decide) rfl rfl ?_
        refine U_iload_n (n := 34) 0 C dX4_parity_33 rfl rfl ?_
        refine U_iconst (n := 35) (2 : Int32) C dX4_parity_34 kiconst_2 rfl ?_
        refine U_irem (n := 36) C dX4_parity_35 (by decide) rfl ?_
        refine U_ifne (tgt := 43) (n := 39) C dX4_parity_36 (by decide) rfl (fun c16 => ?_) (fun c16 => ?_)
        · replace hf := (if_pos c16).symm.trans hf
          refine U_iconst (n := 40) (1 : Int32) C dX4_parity_39 kiconst_1 rfl ?_
          refine U_goto (n := 0) (tgt := 44) C dX4_parity_40 (by decide) ?_
          have hr := (Option.some.inj hf)
          subst hr
          subst hQ
          exact U_iret C dX4_parity_44 (Nat.le_refl 0) (Nat.le_refl 0)
        · replace hf := (if_neg c16).symm.trans hf
          refine U_iconst (n := 44) (-1 : Int32) C dX4_parity_43 kiconst_m1 rfl ?_
          have hr := (Option.some.inj hf)
          subst hr
          subst hQ
          exact U_iret C dX4_parity_44 (Nat.le_refl 0) (Nat.le_refl 0)
      · skip
        refine U_icle (tgt := 30) (n := 26) C dX4_parity_23 (by decide) rfl (fun c11 => ?_) (fun c11 => ?_)
        · replace hf := (if_pos c11).symm.trans hf
          refine U_iconst (n := 31) (0 : Int32) C dX4_parity_30 kiconst_0 rfl ?_
          have hr := Option.some.inj hf
          subst hr
          exact U_lv [] rfl J14
        · replace hf := (if_neg c11).symm.trans hf
          refine U_iconst (n := 27) (1 : Int32) C dX4_parity_26 kiconst_1 rfl ?_
          refine U_goto (n := 0) (tgt := 31) C dX4_parity_27 (by decide) ?_
          have hr := Option.some.inj hf
          subst hr
          exact U_lv [] rfl J14
    · skip
      refine U_icle (tgt := 19) (n := 15) C dX4_parity_12 (by decide) rfl (fun c6 => ?_) (fun c6 => ?_)
      · replace hf := (if_pos c6).symm.trans hf
        refine U_iconst (n := 20) (0 : Int32) C dX4_parity_19 kiconst_0 rfl ?_
        have hr := Option.some.inj hf
        subst hr
        exact U_lv [1, 2] rfl J9
      · replace hf := (if_neg c6).symm.trans hf
        refine U_iconst (n := 16) (1 : Int32) C dX4_parity_15 kiconst_1 rfl ?_
        refine U_goto (n := 0) (tgt := 20) C dX4_parity_16 (by decide) ?_
        have hr := Option.some.inj hf
        subst hr
        exact U_lv [1, 2] rfl J9
  · skip
    refine U_icle (tgt := 9) (n := 5) C dX4_parity_2 (by decide) rfl (fun c1 => ?_) (fun c1 => ?_)
    · replace hf := (if_pos c1).symm.trans hf
      refine U_iconst (n := 10) (0 : Int32) C dX4_parity_9 kiconst_0 rfl ?_
      have hr := Option.some.inj hf
      subst hr
      exact U_lv [0, 1, 2] rfl J4
    · replace hf := (if_neg c1).symm.trans hf
      refine U_iconst (n := 6) (1 : Int32) C dX4_parity_5 kiconst_1 rfl ?_
      refine U_goto (n := 0) (tgt := 10) C dX4_parity_6 (by decide) ?_
      have hr := Option.some.inj hf
      subst hr
      exact U_lv [0, 1, 2] rfl J4
def f_X4_signOf (o : Nat) (a1 : Int32) (a2 : Int32) (a3 : Int32) (h : Hp) : Option Int32 :=
  (rc 4 h o).bind fun _ =>
  (f_X4_differ a1 a2 a3).bind fun v1 =>
  if v1 = 0 then (
    some ((0 : Int32))
  ) else (
    (f_X4_tripleOf o a1 a2 a3 h).bind fun v3 =>
    (f_X4_get o v3 (0 : Int32) h).bind fun v4 =>
    if v4 = (-100 : Int32) then (
      some ((-100 : Int32))
    ) else (
      (f_X4_parity a1 a2 a3).bind fun v6 =>
      some ((v4 * v6))
    )
  )
theorem rc_X4_signOf {o : Nat} {a1 : Int32} {a2 : Int32} {a3 : Int32} {h : Hp} {z} (hf : f_X4_signOf o a1 a2 a3 h = some z) : rc 4 h o = some () := by
  unfold f_X4_signOf at hf
  exact (bsome hf).choose_spec.1
set_option maxHeartbeats 2000000 in
set_option maxRecDepth 20000 in
theorem M_X4_signOf {g : GT} {o : Nat} {a1 : Int32} {a2 : Int32} {a3 : Int32} {h : Hp} {r : Int32} (hf : f_X4_signOf o a1 a2 a3 h = some r) : CM g yX4_signOf cX4_signOf 5 (some .int) 7 0 0 [.ref o, .int a1, .int a2, .int a3] h (.inr (some (.int r))) h := by
  refine CM_of rfl (fun _ => Nat.le_of_ble_eq_true rfl) (fun Γ C hn0 => ?_)
  have C : Cx g Γ cX4_signOf RX4 "signOf" 5 (some .int) 7 0 0 := C
  generalize hQ : Qe g Γ (.inr (some (.int r))) h 0 0 = Q
  show U g Γ 5 Q 0 0 0 [(0, .ref o), (1, .int a1), (2, .int a2), (3, .int a3)] [] h
  unfold f_X4_signOf at hf
  replace hf := (bsome hf).choose_spec.2
  refine U_iload_n (n := 1) 1 C dX4_signOf_0 rfl rfl ?_
  refine U_iload_n (n := 2) 2 C dX4_signOf_1 rfl rfl ?_
  refine U_iload_n (n := 3) 3 C dX4_signOf_2 rfl rfl ?_
  obtain ⟨v1, ev1, hf⟩ := bsome hf
  refine cv_RX4_99 (n := 6) C dX4_signOf_3 (av := [.int a1, .int a2, .int a3]) rfl (M_X4_differ ev1) (Nat.le_of_ble_eq_true rfl) (Nat.zero_le _) (Nat.zero_le _) (Nat.le_of_ble_eq_true rfl) rfl ?_
  refine U_ifne (tgt := 11) (n := 9) C dX4_signOf_6 (by decide) rfl (fun c2 => ?_) (fun c2 => ?_)
  · replace hf := (if_pos c2).symm.trans hf
    refine U_iconst (n := 10) (0 : Int32) C dX4_signOf_9 kiconst_0 rfl ?_
    have hr := (Option.some.inj hf)
    subst hr
    subst hQ
    exact U_iret C dX4_signOf_10 (Nat.le_refl 0) (Nat.le_refl 0)
  · replace hf := (if_neg c2).symm.trans hf
    refine U_aload_n (n := 12) 0 C dX4_signOf_11 rfl rfl rfl ?_
    refine U_aload_n (n := 13) 0 C dX4_signOf_12 rfl rfl rfl ?_
    refine U_iload_n (n := 14) 1 C dX4_signOf_13 rfl rfl ?_
    refine U_iload_n (n := 15) 2 C dX4_signOf_14 rfl rfl ?_
    refine U_iload_n (n := 16) 3 C dX4_signOf_15 rfl rfl ?_
    obtain ⟨v3, ev3, hf⟩ := bsome hf
    refine cv_RX4_102 (n := 19) C dX4_signOf_16 (av := [.int a1, .int a2, .int a3]) rfl (rc_X4_tripleOf ev3) (M_X4_tripleOf ev3) (Nat.le_of_ble_eq_true rfl) (Nat.zero_le _) (Nat.zero_le _) (Nat.le_of_ble_eq_true rfl) rfl ?_
    refine U_iconst (n := 20) (0 : Int32) C dX4_signOf_19 kiconst_0 rfl ?_
    obtain ⟨v4, ev4, hf⟩ := bsome hf
    refine cv_RX4_106 (n := 23) C dX4_signOf_20 (av := [.int v3, .int (0 : Int32)]) rfl (rc_X4_get ev4) (M_X4_get ev4) (Nat.le_of_ble_eq_true rfl) (Nat.zero_le _) (Nat.zero_le _) (Nat.le_of_ble_eq_true rfl) rfl ?_
    refine U_istore (n := 25) (lv2 := [(4, .int v4), (0, .ref o), (1, .int a1), (2, .int a2), (3, .int a3)]) C dX4_signOf_23 (by decide) rfl rfl ?_
    refine U_iload (n := 27) 0 C dX4_signOf_25 rfl rfl ?_
    refine U_bipush (n := 29) (-100 : Int32) C dX4_signOf_27 kbipush_m100 rfl ?_
    refine U_icne (tgt := 37) (n := 32) C dX4_signOf_29 (by decide) rfl (fun c5 => ?_) (fun c5 => ?_)
    · replace hf := (if_pos c5).symm.trans hf
      refine U_bipush (n := 34) (-100 : Int32) C dX4_signOf_32 kbipush_m100 rfl ?_
      refine U_goto (n := 0) (tgt := 46) C dX4_signOf_34 (by decide) ?_
      have hr := (Option.some.inj hf)
      subst hr
      subst hQ
      exact U_iret C dX4_signOf_46 (Nat.le_refl 0) (Nat.le_refl 0)
    · replace hf := (if_neg c5).symm.trans hf
      refine U_iload (n := 39) 0 C dX4_signOf_37 rfl rfl ?_
      refine U_iload_n (n := 40) 2 C dX4_signOf_39 rfl rfl ?_
      refine U_iload_n (n := 41) 3 C dX4_signOf_40 rfl rfl ?_
      refine U_iload_n (n := 42) 4 C dX4_signOf_41 rfl rfl ?_
      obtain ⟨v6, ev6, hf⟩ := bsome hf
      refine cv_RX4_110 (n := 45) C dX4_signOf_42 (av := [.int a1, .int a2, .int a3]) rfl (M_X4_parity ev6) (Nat.le_of_ble_eq_true rfl) (Nat.zero_le _) (Nat.zero_le _) (Nat.le_of_ble_eq_true rfl) rfl ?_
      refine U_imul (n := 46) C dX4_signOf_45 rfl ?_
      have hr := (Option.some.inj hf)
      subst hr
      subst hQ
      exact U_iret C dX4_signOf_46 (Nat.le_refl 0) (Nat.le_refl 0)
def l_X4_many_4 (p0 : Nat) (p1 : Int32) (h : Hp) : Nat → Int32 → Int32 → Option Int32
  | 0, _, _ => none
  | fuel + 1, x2, x3 =>
    (fI 4 9 h p0).bind fun v1 =>
    if v1 ≤ x3 then (
      some x2
    ) else (
      (f_X4_get p0 x3 (1 : Int32) h).bind fun v3 =>
      (
        if v3 = p1 then (
          some ((1 : Int32))
        ) else (
          some ((0 : Int32))
        )
      ).bind fun v5 =>
      l_X4_many_4 p0 p1 h fuel (x2 + v5) (x3 + 1)
    )
def f_X4_many (o : Nat) (a1 : Int32) (h : Hp) : Option Int32 :=
  (rc 4 h o).bind fun _ =>
  (l_X4_many_4 o a1 h FU (0 : Int32) (0 : Int32)).bind fun v9 =>
  some (v9)
set_option maxHeartbeats 2000000 in
set_option maxRecDepth 20000 in
theorem L_X4_many_4 {g : GT} {Γ : CT} {Q : State → Prop} {mc ms : Nat} (C : Cx g Γ cX4_many RX4 "many" 4 (some .int) 7 mc ms) {p0 : Nat} {p1 : Int32} {h : Hp} : ∀ {fuel : Nat} {x2 : Int32} {x3 : Int32} {y2 : Int32}, l_X4_many_4 p0 p1 h fuel x2 x3 = some y2 → U g Γ 4 Q 0 0 36 [(2, .int y2)] [] h → U g Γ 4 Q 0 0 4 [(0, .ref p0), (1, .int p1), (2, .int x2), (3, .int x3)] [] h := by
  intro fuel
  induction fuel with
  | zero =>
    intro x2 x3 y2 hf J0
    simp only [l_X4_many_4, reduceCtorEq] at hf
  | succ fuel ih =>
    intro x2 x3 y2 hf J0
    rw [l_X4_many_4] at hf
    refine U_iload_n (n := 5) 3 C dX4_many_4 rfl rfl ?_
    refine U_aload_n (n := 6) 0 C dX4_many_5 rfl rfl rfl ?_
    refine gf_RX4_71 (n := 9) C dX4_many_6 hf rfl (fun v1 hf => ?_)
    refine U_icge (tgt := 36) (n := 12) C dX4_many_9 (by decide) rfl (fun c2 => ?_) (fun c2 => ?_)
    · replace hf := (if_pos c2).symm.trans hf
      have hr := Option.some.inj hf
      subst hr
      exact U_lv [2] rfl J0
    · replace hf := (if_neg c2).symm.trans hf
      refine U_iload_n (n := 13) 2 C dX4_many_12 rfl rfl ?_
      refine U_aload_n (n := 14) 0 C dX4_many_13 rfl rfl rfl ?_
      refine U_iload_n (n := 15) 3 C dX4_many_14 rfl rfl ?_
      refine U_iconst (n := 16) (1 : Int32) C dX4_many_15 kiconst_1 rfl ?_
      obtain ⟨v3, ev3, hf⟩ := bsome hf
      refine cv_RX4_106 (n := 19) C dX4_many_16 (av := [.int x3, .int (1 : Int32)]) rfl (rc_X4_get ev3) (M_X4_get ev3) (Nat.le_of_ble_eq_true rfl) (Nat.zero_le _) (Nat.zero_le _) (Nat.le_of_ble_eq_true rfl) rfl ?_
      refine U_iload_n (n := 20) 1 C dX4_many_19 rfl rfl ?_
      refine U_join1 (fun v5 => U g Γ 4 Q 0 0 28 [(0, .ref p0), (1, .int p1), (3, .int x3)] [.int v5, .int x2] h) hf (fun v5 hf => ?_) (fun v5 hf J7 => ?_)
      · skip
        refine U_iadd (n := 29) C dX4_many_28 rfl ?_
        refine U_istore_n (n := 30) (lv2 := [(2, .int (x2 + v5)), (0, .ref p0), (1, .int p1), (3, .int x3)]) C dX4_many_29 (by decide) rfl rfl ?_
        refine U_iinc (n := 33) (v := (x3 + 1)) (lv2 := [(3, .int (x3 + 1)), (2, .int (x2 + v5)), (0, .ref p0), (1, .int p1)]) 3 C dX4_many_30 rfl rfl (by decide) rfl rfl ?_
        refine U_goto (n := 0) (tgt := 4) C dX4_many_33 (by decide) ?_
        exact U_lv [2, 3, 1, 0] rfl (ih hf J0)
      · skip
        refine U_icne (tgt := 27) (n := 23) C dX4_many_20 (by decide) rfl (fun c4 => ?_) (fun c4 => ?_)
        · replace hf := (if_pos c4).symm.trans hf
          refine U_iconst (n := 24) (1 : Int32) C dX4_many_23 kiconst_1 rfl ?_
          refine U_goto (n := 0) (tgt := 28) C dX4_many_24 (by decide) ?_
          have hr := Option.some.inj hf
          subst hr
          exact U_lv [0, 1, 3] rfl J7
        · replace hf := (if_neg c4).symm.trans hf
          refine U_iconst (n := 28) (0 : Int32) C dX4_many_27 kiconst_0 rfl ?_
          have hr := Option.some.inj hf
          subst hr
          exact U_lv [0, 1, 3] rfl J7
theorem rc_X4_many {o : Nat} {a1 : Int32} {h : Hp} {z} (hf : f_X4_many o a1 h = some z) : rc 4 h o = some () := by
  unfold f_X4_many at hf
  exact (bsome hf).choose_spec.1
set_option maxHeartbeats 2000000 in
set_option maxRecDepth 20000 in
theorem M_X4_many {g : GT} {o : Nat} {a1 : Int32} {h : Hp} {r : Int32} (hf : f_X4_many o a1 h = some r) : CM g yX4_many cX4_many 4 (some .int) 7 0 0 [.ref o, .int a1] h (.inr (some (.int r))) h := by
  refine CM_of rfl (fun _ => Nat.le_of_ble_eq_true rfl) (fun Γ C hn0 => ?_)
  have C : Cx g Γ cX4_many RX4 "many" 4 (some .int) 7 0 0 := C
  generalize hQ : Qe g Γ (.inr (some (.int r))) h 0 0 = Q
  show U g Γ 4 Q 0 0 0 [(0, .ref o), (1, .int a1)] [] h
  unfold f_X4_many at hf
  replace hf := (bsome hf).choose_spec.2
  refine U_iconst (n := 1) (0 : Int32) C dX4_many_0 kiconst_0 rfl ?_
  refine U_istore_n (n := 2) (lv2 := [(2, .int (0 : Int32)), (0, .ref o), (1, .int a1)]) C dX4_many_1 (by decide) rfl rfl ?_
  refine U_iconst (n := 3) (0 : Int32) C dX4_many_2 kiconst_0 rfl ?_
  refine U_istore_n (n := 4) (lv2 := [(3, .int (0 : Int32)), (2, .int (0 : Int32)), (0, .ref o), (1, .int a1)]) C dX4_many_3 (by decide) rfl rfl ?_
  refine U_join1 (fun v9 => U g Γ 4 Q 0 0 36 [(2, .int v9)] [] h) hf (fun v9 hf => ?_) (fun v9 hf J => U_lv [2, 3, 1, 0] rfl (L_X4_many_4 C hf J))
  refine U_iload_n (n := 37) 0 C dX4_many_36 rfl rfl ?_
  have hr := (Option.some.inj hf)
  subst hr
  subst hQ
  exact U_iret C dX4_many_37 (Nat.le_refl 0) (Nat.le_refl 0)
def l_X4_forgets_4 (p0 : Nat) : Nat → Int32 → Int32 → Hp → Option (Int32 × Hp)
  | 0, _, _, _ => none
  | fuel + 1, x1, x2, h =>
    (fI 4 9 h p0).bind fun v1 =>
    if v1 ≤ x2 then (
      some ((x1, h))
    ) else (
      (f_X4_get p0 x2 (1 : Int32) h).bind fun v3 =>
      bind2 (
        if v3 = (2 : Int32) then (
          (f_X4_clears p0 x2 h).bind fun h11 =>
          some (((x1 + 1), h11))
        ) else (
          some ((x1, h))
        )
      ) fun v5 h6 =>
      l_X4_forgets_4 p0 fuel v5 (x2 + 1) h6
    )
def f_X4_forgets (o : Nat) (h : Hp) : Option (Int32 × Hp) :=
  (rc 4 h o).bind fun _ =>
  bind2 (l_X4_forgets_4 o FU (0 : Int32) (0 : Int32) h) fun v12 h13 =>
  (fR 4 0 h13 o).bind fun v14 =>
  (wI h13 v14 (2 : Int32) (-100 : Int32)).bind fun h15 =>
  some ((v12, h15))
set_option maxHeartbeats 2000000 in
set_option maxRecDepth 20000 in
theorem L_X4_forgets_4 {g : GT} {Γ : CT} {Q : State → Prop} {mc ms : Nat} (C : Cx g Γ cX4_forgets RX4 "forgets" 3 (some .int) 8 mc ms) {p0 : Nat} : ∀ {fuel : Nat} {x1 : Int32} {x2 : Int32} {h : Hp} {y1 : Int32} {hy : Hp}, l_X4_forgets_4 p0 fuel x1 x2 h = some (y1, hy) → U g Γ 3 Q 0 0 36 [(0, .ref p0), (1, .int y1)] [] hy → U g Γ 3 Q 0 0 4 [(0, .ref p0), (1, .int x1), (2, .int x2)] [] h := by
  intro fuel
  induction fuel with
  | zero =>
    intro x1 x2 h y1 hy hf J0
    simp only [l_X4_forgets_4, reduceCtorEq] at hf
  | succ fuel ih =>
    intro x1 x2 h y1 hy hf J0
    rw [l_X4_forgets_4] at hf
    refine U_iload_n (n := 5) 2 C dX4_forgets_4 rfl rfl ?_
    refine U_aload_n (n := 6) 0 C dX4_forgets_5 rfl rfl rfl ?_
    refine gf_RX4_71 (n := 9) C dX4_forgets_6 hf rfl (fun v1 hf => ?_)
    refine U_icge (tgt := 36) (n := 12) C dX4_forgets_9 (by decide) rfl (fun c2 => ?_) (fun c2 => ?_)
    · replace hf := (if_pos c2).symm.trans hf
      obtain ⟨hr0, hs0⟩ := Prod.mk.inj (Option.some.inj hf)
      subst hr0
      subst hs0
      exact U_lv [0, 1] rfl J0
    · replace hf := (if_neg c2).symm.trans hf
      refine U_aload_n (n := 13) 0 C dX4_forgets_12 rfl rfl rfl ?_
      refine U_iload_n (n := 14) 2 C dX4_forgets_13 rfl rfl ?_
      refine U_iconst (n := 15) (1 : Int32) C dX4_forgets_14 kiconst_1 rfl ?_
      obtain ⟨v3, ev3, hf⟩ := bsome hf
      refine cv_RX4_106 (n := 18) C dX4_forgets_15 (av := [.int x2, .int (1 : Int32)]) rfl (rc_X4_get ev3) (M_X4_get ev3) (Nat.le_of_ble_eq_true rfl) (Nat.zero_le _) (Nat.zero_le _) (Nat.le_of_ble_eq_true rfl) rfl ?_
      refine U_iconst (n := 19) (2 : Int32) C dX4_forgets_18 kiconst_2 rfl ?_
      refine U_join2 (fun v5 h6 => U g Γ 3 Q 0 0 30 [(0, .ref p0), (1, .int v5), (2, .int x2)] [] h6) hf (fun v5 h6 hf => ?_) (fun v5 h6 hf J8 => ?_)
      · skip
        refine U_iinc (n := 33) (v := (x2 + 1)) (lv2 := [(2, .int (x2 + 1)), (0, .ref p0), (1, .int v5)]) 2 C dX4_forgets_30 rfl rfl (by decide) rfl rfl ?_
        refine U_goto (n := 0) (tgt := 4) C dX4_forgets_33 (by decide) ?_
        exact U_lv [1, 2, 0] rfl (ih hf J0)
      · skip
        refine U_icne (tgt := 30) (n := 22) C dX4_forgets_19 (by decide) rfl (fun c4 => ?_) (fun c4 => ?_)
        · replace hf := (if_pos c4).symm.trans hf
          refine U_aload_n (n := 23) 0 C dX4_forgets_22 rfl rfl rfl ?_
          refine U_iload_n (n := 24) 2 C dX4_forgets_23 rfl rfl ?_
          obtain ⟨h11, ev10, hf⟩ := bsome hf
          refine cv_RX4_81 (n := 27) C dX4_forgets_24 (av := [.int x2]) rfl (rc_X4_clears ev10) (M_X4_clears ev10) (Nat.le_of_ble_eq_true rfl) (Nat.zero_le _) (Nat.zero_le _) (Nat.le_of_ble_eq_true rfl) rfl ?_
          refine U_iinc (n := 30) (v := (x1 + 1)) (lv2 := [(1, .int (x1 + 1)), (0, .ref p0), (2, .int x2)]) 1 C dX4_forgets_27 rfl rfl (by decide) rfl rfl ?_
          obtain ⟨hr0, hs0⟩ := Prod.mk.inj (Option.some.inj hf)
          subst hr0
          subst hs0
          exact U_lv [1, 0, 2] rfl J8
        · replace hf := (if_neg c4).symm.trans hf
          obtain ⟨hr0, hs0⟩ := Prod.mk.inj (Option.some.inj hf)
          subst hr0
          subst hs0
          exact U_lv [0, 1, 2] rfl J8
theorem rc_X4_forgets {o : Nat} {h : Hp} {z} (hf : f_X4_forgets o h = some z) : rc 4 h o = some () := by
  unfold f_X4_forgets at hf
  exact (bsome hf).choose_spec.1
set_option maxHeartbeats 2000000 in
set_option maxRecDepth 20000 in
theorem M_X4_forgets {g : GT} {o : Nat} {h : Hp} {r : Int32} {h2 : Hp} (hf : f_X4_forgets o h = some (r, h2)) : CM g yX4_forgets cX4_forgets 3 (some .int) 8 0 0 [.ref o] h (.inr (some (.int r))) h2 := by
  refine CM_of rfl (fun _ => Nat.le_of_ble_eq_true rfl) (fun Γ C hn0 => ?_)
  have C : Cx g Γ cX4_forgets RX4 "forgets" 3 (some .int) 8 0 0 := C
  generalize hQ : Qe g Γ (.inr (some (.int r))) h2 0 0 = Q
  show U g Γ 3 Q 0 0 0 [(0, .ref o)] [] h
  unfold f_X4_forgets at hf
  replace hf := (bsome hf).choose_spec.2
  refine U_iconst (n := 1) (0 : Int32) C dX4_forgets_0 kiconst_0 rfl ?_
  refine U_istore_n (n := 2) (lv2 := [(1, .int (0 : Int32)), (0, .ref o)]) C dX4_forgets_1 (by decide) rfl rfl ?_
  refine U_iconst (n := 3) (0 : Int32) C dX4_forgets_2 kiconst_0 rfl ?_
  refine U_istore_n (n := 4) (lv2 := [(2, .int (0 : Int32)), (1, .int (0 : Int32)), (0, .ref o)]) C dX4_forgets_3 (by decide) rfl rfl ?_
  refine U_join2 (fun v12 h13 => U g Γ 3 Q 0 0 36 [(0, .ref o), (1, .int v12)] [] h13) hf (fun v12 h13 hf => ?_) (fun v12 h13 hf J => U_lv [2, 1, 0] rfl (L_X4_forgets_4 C hf J))
  refine U_aload_n (n := 37) 0 C dX4_forgets_36 rfl rfl rfl ?_
  refine gf_RX4_7 (n := 40) C dX4_forgets_37 hf rfl (fun v14 hf => ?_)
  refine U_iconst (n := 41) (2 : Int32) C dX4_forgets_40 kiconst_2 rfl ?_
  refine U_bipush (n := 43) (-100 : Int32) C dX4_forgets_41 kbipush_m100 rfl ?_
  refine U_iast (n := 44) C dX4_forgets_43 hf rfl (fun h15 hf => ?_)
  refine U_iload_n (n := 45) 1 C dX4_forgets_44 rfl rfl ?_
  obtain ⟨hr1, hr2⟩ := Prod.mk.inj (Option.some.inj hf)
  subst hr1; subst hr2
  subst hQ
  exact U_iret C dX4_forgets_45 (Nat.le_refl 0) (Nat.le_refl 0)
