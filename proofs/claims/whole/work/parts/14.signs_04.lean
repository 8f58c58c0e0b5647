def f_X3_carryOut (o : Nat) (a1 : Int32) (h : Hp) : Option (Int32 × Hp) :=
  (rc 3 h o).bind fun _ =>
  (fR 3 2 h o).bind fun v1 =>
  (fR 1 2 h v1).bind fun v2 =>
  (aI h v2 a1).bind fun v3 =>
  if v3 = (4 : Int32) then (
    bind2 (f_X3_deriveAll o h) fun v5 h6 =>
    some (((1 : Int32), h6))
  ) else (
    if v3 = (5 : Int32) then (
      bind2 (f_X3_negateAll o h) fun v8 h9 =>
      some (((1 : Int32), h9))
    ) else (
      (fR 3 2 h o).bind fun v10 =>
      (f_X1_name v10 a1 (0 : Int32) h).bind fun v11 =>
      (fR 3 2 h o).bind fun v12 =>
      (f_X1_name v12 a1 (1 : Int32) h).bind fun v13 =>
      (fR 3 2 h o).bind fun v14 =>
      (f_X1_name v14 a1 (2 : Int32) h).bind fun v15 =>
      (f_X3_isPoint o v11 h).bind fun v16 =>
      if v16 = 0 then (
        some (((0 : Int32), h))
      ) else (
        (f_X3_isPoint o v13 h).bind fun v18 =>
        if v18 = 0 then (
          some (((0 : Int32), h))
        ) else (
          (f_X3_isPoint o v15 h).bind fun v20 =>
          if v20 = 0 then (
            some (((0 : Int32), h))
          ) else (
            (f_X3_areDistinct v11 v13 v15).bind fun v22 =>
            if v22 = 0 then (
              some (((0 : Int32), h))
            ) else (
              if v3 = (3 : Int32) then (
                (fR 3 0 h o).bind fun v25 =>
                (f_X0_numberOf v25 v11 v13 v15 h).bind fun v26 =>
                (fR 3 1 h o).bind fun v27 =>
                (fR 2 4 h v27).bind fun v28 =>
                (aI h v28 v26).bind fun v29 =>
                if v29 = (1 : Int32) then (
                  (f_X3_takeAway o v26 h).bind fun h32 =>
                  some (((1 : Int32), h32))
                ) else (
                  some (((0 : Int32), h))
                )
              ) else (
                (f_X1_signOf v3).bind fun v33 =>
                (f_X3_giveOrdered o v11 v13 v15 v33 h).bind fun h35 =>
                some (((1 : Int32), h35))
              )
            )
          )
        )
      )
    )
  )
theorem rc_X3_carryOut {o : Nat} {a1 : Int32} {h : Hp} {z} (hf : f_X3_carryOut o a1 h = some z) : rc 3 h o = some () := by
  unfold f_X3_carryOut at hf
  exact (bsome hf).choose_spec.1
set_option maxHeartbeats 2000000 in
set_option maxRecDepth 20000 in
theorem M_X3_carryOut {g : GT} {o : Nat} {a1 : Int32} {h : Hp} {r : Int32} {h2 : Hp} (hf : f_X3_carryOut o a1 h = some (r, h2)) : CM g yX3_carryOut cX3_carryOut 7 (some .boolean) 11 0 0 [.ref o, .int a1] h (.inr (some (.int r))) h2 := by
  refine CM_of rfl (fun _ => Nat.le_of_ble_eq_true rfl) (fun Γ C hn0 => ?_)
  have C : Cx g Γ cX3_carryOut RX3 "carryOut" 7 (some .boolean) 11 0 0 := C
  generalize hQ : Qe g Γ (.inr (some (.int r))) h2 0 0 = Q
  show U g Γ 7 Q 0 0 0 [(0, .ref o), (1, .int a1)] [] h
  unfold f_X3_carryOut at hf
  replace hf := (bsome hf).choose_spec.2
  refine U_aload_n (n := 1) 0 C dX3_carryOut_0 rfl rfl rfl ?_
  refine gf_RX3_26 (n := 4) C dX3_carryOut_1 hf rfl (fun v1 hf => ?_)
  refine gf_RX3_393 (n := 7) C dX3_carryOut_4 hf rfl (fun v2 hf => ?_)
  refine U_iload_n (n := 8) 1 C dX3_carryOut_7 rfl rfl ?_
  refine U_iald (n := 9) C dX3_carryOut_8 hf rfl (fun v3 hf => ?_)
  refine U_istore_n (n := 10) (lv2 := [(2, .int v3), (0, .ref o), (1, .int a1)]) C dX3_carryOut_9 (by decide) rfl rfl ?_
  refine U_iload_n (n := 11) 0 C dX3_carryOut_10 rfl rfl ?_
  refine U_iconst (n := 12) (4 : Int32) C dX3_carryOut_11 kiconst_4 rfl ?_
  refine U_icne (tgt := 22) (n := 15) C dX3_carryOut_12 (by decide) rfl (fun c4 => ?_) (fun c4 => ?_)
  · replace hf := (if_pos c4).symm.trans hf
    refine U_aload_n (n := 16) 1 C dX3_carryOut_15 rfl rfl rfl ?_
    obtain ⟨v5, h6, ev5, hf⟩ := bsome2 hf
    refine cv_RX3_119 (n := 19) C dX3_carryOut_16 (av := []) rfl (rc_X3_deriveAll ev5) (M_X3_deriveAll ev5) (Nat.le_of_ble_eq_true rfl) (Nat.zero_le _) (Nat.zero_le _) (Nat.le_of_ble_eq_true rfl) rfl ?_
    refine U_pop (n := 20) C dX3_carryOut_19 rfl rfl ?_
    refine U_iconst (n := 21) (1 : Int32) C dX3_carryOut_20 kiconst_1 rfl ?_
    obtain ⟨hr1, hr2⟩ := Prod.mk.inj (Option.some.inj hf)
    subst hr1; subst hr2
    subst hQ
    exact U_zret C dX3_carryOut_21 (Or.inr rfl) (Nat.le_refl 0) (Nat.le_refl 0)
  · replace hf := (if_neg c4).symm.trans hf
    refine U_iload_n (n := 23) 0 C dX3_carryOut_22 rfl rfl ?_
    refine U_iconst (n := 24) (5 : Int32) C dX3_carryOut_23 kiconst_5 rfl ?_
    refine U_icne (tgt := 34) (n := 27) C dX3_carryOut_24 (by decide) rfl (fun c7 => ?_) (fun c7 => ?_)
    · replace hf := (if_pos c7).symm.trans hf
      refine U_aload_n (n := 28) 1 C dX3_carryOut_27 rfl rfl rfl ?_
      obtain ⟨v8, h9, ev8, hf⟩ := bsome2 hf
      refine cv_RX3_122 (n := 31) C dX3_carryOut_28 (av := []) rfl (rc_X3_negateAll ev8) (M_X3_negateAll ev8) (Nat.le_of_ble_eq_true rfl) (Nat.zero_le _) (Nat.zero_le _) (Nat.le_of_ble_eq_true rfl) rfl ?_
      refine U_pop (n := 32) C dX3_carryOut_31 rfl rfl ?_
      refine U_iconst (n := 33) (1 : Int32) C dX3_carryOut_32 kiconst_1 rfl ?_
      obtain ⟨hr1, hr2⟩ := Prod.mk.inj (Option.some.inj hf)
      subst hr1; subst hr2
      subst hQ
      exact U_zret C dX3_carryOut_33 (Or.inr rfl) (Nat.le_refl 0) (Nat.le_refl 0)
    · replace hf := (if_neg c7).symm.trans hf
      refine U_aload_n (n := 35) 1 C dX3_carryOut_34 rfl rfl rfl ?_
      refine gf_RX3_26 (n := 38) C dX3_carryOut_35 hf rfl (fun v10 hf => ?_)
      refine U_iload_n (n := 39) 2 C dX3_carryOut_38 rfl rfl ?_
      refine U_iconst (n := 40) (0 : Int32) C dX3_carryOut_39 kiconst_0 rfl ?_
      obtain ⟨v11, ev11, hf⟩ := bsome hf
      refine cv_RX3_396 (n := 43) C dX3_carryOut_40 (av := [.int a1, .int (0 : Int32)]) rfl (rc_X1_name ev11) (M_X1_name ev11) (Nat.le_of_ble_eq_true rfl) (Nat.zero_le _) (Nat.zero_le _) (Nat.le_of_ble_eq_true rfl) rfl ?_
      refine U_istore_n (n := 44) (lv2 := [(3, .int v11), (2, .int v3), (0, .ref o), (1, .int a1)]) C dX3_carryOut_43 (by decide) rfl rfl ?_
      refine U_aload_n (n := 45) 2 C dX3_carryOut_44 rfl rfl rfl ?_
      refine gf_RX3_26 (n := 48) C dX3_carryOut_45 hf rfl (fun v12 hf => ?_)
      refine U_iload_n (n := 49) 3 C dX3_carryOut_48 rfl rfl ?_
      refine U_iconst (n := 50) (1 : Int32) C dX3_carryOut_49 kiconst_1 rfl ?_
      obtain ⟨v13, ev13, hf⟩ := bsome hf
      refine cv_RX3_396 (n := 53) C dX3_carryOut_50 (av := [.int a1, .int (1 : Int32)]) rfl (rc_X1_name ev13) (M_X1_name ev13) (Nat.le_of_ble_eq_true rfl) (Nat.zero_le _) (Nat.zero_le _) (Nat.le_of_ble_eq_true rfl) rfl ?_
      refine U_istore (n := 55) (lv2 := [(4, .int v13), (3, .int v11), (2, .int v3), (0, .ref o), (1, .int a1)]) C dX3_carryOut_53 (by decide) rfl rfl ?_
      refine U_aload_n (n := 56) 3 C dX3_carryOut_55 rfl rfl rfl ?_
      refine gf_RX3_26 (n := 59) C dX3_carryOut_56 hf rfl (fun v14 hf => ?_)
      refine U_iload_n (n := 60) 4 C dX3_carryOut_59 rfl rfl ?_
      refine U_iconst (n := 61) (2 : Int32) C dX3_carryOut_60 kiconst_2 rfl ?_
      obtain ⟨v15, ev15, hf⟩ := bsome hf
      refine cv_RX3_396 (n := 64) C dX3_carryOut_61 (av := [.int a1, .int (2 : Int32)]) rfl (rc_X1_name ev15) (M_X1_name ev15) (Nat.le_of_ble_eq_true rfl) (Nat.zero_le _) (Nat.zero_le _) (Nat.le_of_ble_eq_true rfl) rfl ?_
      refine U_istore (n := 66) (lv2 := [(5, .int v15), (4, .int v13), (3, .int v11), (2, .int v3), (0, .ref o), (1, .int a1)]) C dX3_carryOut_64 (by decide) rfl rfl ?_
      refine U_aload_n (n := 67) 4 C dX3_carryOut_66 rfl rfl rfl ?_
      refine U_iload_n (n := 68) 2 C dX3_carryOut_67 rfl rfl ?_
      obtain ⟨v16, ev16, hf⟩ := bsome hf
      refine cv_RX3_318 (n := 71) C dX3_carryOut_68 (av := [.int v11]) rfl (rc_X3_isPoint ev16) (M_X3_isPoint ev16) (Nat.le_of_ble_eq_true rfl) (Nat.zero_le _) (Nat.zero_le _) (Nat.le_of_ble_eq_true rfl) rfl ?_
      refine U_ifeq (tgt := 103) (n := 74) C dX3_carryOut_71 (by decide) rfl (fun c17 => ?_) (fun c17 => ?_)
      · replace hf := (if_pos c17).symm.trans hf
        refine U_iconst (n := 104) (0 : Int32) C dX3_carryOut_103 kiconst_0 rfl ?_
        obtain ⟨hr1, hr2⟩ := Prod.mk.inj (Option.some.inj hf)
        subst hr1; subst hr2
        subst hQ
        exact U_zret C dX3_carryOut_104 (Or.inl rfl) (Nat.le_refl 0) (Nat.le_refl 0)
      · replace hf := (if_neg c17).symm.trans hf
        refine U_aload_n (n := 75) 4 C dX3_carryOut_74 rfl rfl rfl ?_
        refine U_iload (n := 77) 1 C dX3_carryOut_75 rfl rfl ?_
        obtain ⟨v18, ev18, hf⟩ := bsome hf
        refine cv_RX3_318 (n := 80) C dX3_carryOut_77 (av := [.int v13]) rfl (rc_X3_isPoint ev18) (M_X3_isPoint ev18) (Nat.le_of_ble_eq_true rfl) (Nat.zero_le _) (Nat.zero_le _) (Nat.le_of_ble_eq_true rfl) rfl ?_
        refine U_ifeq (tgt := 103) (n := 83) C dX3_carryOut_80 (by decide) rfl (fun c19 => ?_) (fun c19 => ?_)
        · replace hf := (if_pos c19).symm.trans hf
          refine U_iconst (n := 104) (0 : Int32) C dX3_carryOut_103 kiconst_0 rfl ?_
          obtain ⟨hr1, hr2⟩ := Prod.mk.inj (Option.some.inj hf)
          subst hr1; subst hr2
          subst hQ
          exact U_zret C dX3_carryOut_104 (Or.inl rfl) (Nat.le_refl 0) (Nat.le_refl 0)
        · replace hf := (if_neg c19).symm.trans hf
          refine U_aload_n (n := 84) 4 C dX3_carryOut_83 rfl rfl rfl ?_
          refine U_iload (n := 86) 0 C dX3_carryOut_84 rfl rfl ?_
          obtain ⟨v20, ev20, hf⟩ := bsome hf
          refine cv_RX3_318 (n := 89) C dX3_carryOut_86 (av := [.int v15]) rfl (rc_X3_isPoint ev20) (M_X3_isPoint ev20) (Nat.le_of_ble_eq_true rfl) (Nat.zero_le _) (Nat.zero_le _) (Nat.le_of_ble_eq_true rfl) rfl ?_
          refine U_ifeq (tgt := 103) (n := 92) C dX3_carryOut_89 (by decide) rfl (fun c21 => ?_) (fun c21 => ?_)
          · replace hf := (if_pos c21).symm.trans hf
            refine U_iconst (n := 104) (0 : Int32) C dX3_carryOut_103 kiconst_0 rfl ?_
            obtain ⟨hr1, hr2⟩ := Prod.mk.inj (Option.some.inj hf)
            subst hr1; subst hr2
            subst hQ
            exact U_zret C dX3_carryOut_104 (Or.inl rfl) (Nat.le_refl 0) (Nat.le_refl 0)
          · replace hf := (if_neg c21).symm.trans hf
            refine U_iload_n (n := 93) 2 C dX3_carryOut_92 rfl rfl ?_
            refine U_iload (n := 95) 1 C dX3_carryOut_93 rfl rfl ?_
            refine U_iload (n := 97) 0 C dX3_carryOut_95 rfl rfl ?_
            obtain ⟨v22, ev22, hf⟩ := bsome hf
            refine cv_RX3_330 (n := 100) C dX3_carryOut_97 (av := [.int v11, .int v13, .int v15]) rfl (M_X3_areDistinct ev22) (Nat.le_of_ble_eq_true rfl) (Nat.zero_le _) (Nat.zero_le _) (Nat.le_of_ble_eq_true rfl) rfl ?_
            refine U_ifne (tgt := 105) (n := 103) C dX3_carryOut_100 (by decide) rfl (fun c23 => ?_) (fun c23 => ?_)
            · replace hf := (if_pos c23).symm.trans hf
              refine U_iconst (n := 104) (0 : Int32) C dX3_carryOut_103 kiconst_0 rfl ?_
              obtain ⟨hr1, hr2⟩ := Prod.mk.inj (Option.some.inj hf)
              subst hr1; subst hr2
              subst hQ
              exact U_zret C dX3_carryOut_104 (Or.inl rfl) (Nat.le_refl 0) (Nat.le_refl 0)
            · replace hf := (if_neg c23).symm.trans hf
              refine U_iload_n (n := 106) 3 C dX3_carryOut_105 rfl rfl ?_
              refine U_iconst (n := 107) (3 : Int32) C dX3_carryOut_106 kiconst_3 rfl ?_
              refine U_iceq (tgt := 125) (n := 110) C dX3_carryOut_107 (by decide) rfl (fun c24 => ?_) (fun c24 => ?_)
              · replace hf := (if_pos c24).symm.trans hf
                refine U_aload_n (n := 126) 4 C dX3_carryOut_125 rfl rfl rfl ?_
                refine gf_RX3_10 (n := 129) C dX3_carryOut_126 hf rfl (fun v25 hf => ?_)
                refine U_iload_n (n := 130) 2 C dX3_carryOut_129 rfl rfl ?_
                refine U_iload (n := 132) 1 C dX3_carryOut_130 rfl rfl ?_
                refine U_iload (n := 134) 0 C dX3_carryOut_132 rfl rfl ?_
                obtain ⟨v26, ev26, hf⟩ := bsome hf
                refine cv_RX3_97 (n := 137) C dX3_carryOut_134 (av := [.int v11, .int v13, .int v15]) rfl (rc_X0_numberOf ev26) (M_X0_numberOf ev26) (Nat.le_of_ble_eq_true rfl) (Nat.zero_le _) (Nat.zero_le _) (Nat.le_of_ble_eq_true rfl) rfl ?_
                refine U_istore (n := 139) (lv2 := [(6, .int v26), (5, .int v15), (4, .int v13), (3, .int v11), (2, .int v3), (0, .ref o), (1, .int a1)]) C dX3_carryOut_137 (by decide) rfl rfl ?_
                refine U_aload_n (n := 140) 5 C dX3_carryOut_139 rfl rfl rfl ?_
                refine gf_RX3_19 (n := 143) C dX3_carryOut_140 hf rfl (fun v27 hf => ?_)
                refine gf_RX3_100 (n := 146) C dX3_carryOut_143 hf rfl (fun v28 hf => ?_)
                refine U_iload (n := 148) 0 C dX3_carryOut_146 rfl rfl ?_
                refine U_iald (n := 149) C dX3_carryOut_148 hf rfl (fun v29 hf => ?_)
                refine U_iconst (n := 150) (1 : Int32) C dX3_carryOut_149 kiconst_1 rfl ?_
                refine U_iceq (tgt := 155) (n := 153) C dX3_carryOut_150 (by decide) rfl (fun c30 => ?_) (fun c30 => ?_)
                · replace hf := (if_pos c30).symm.trans hf
                  refine U_aload_n (n := 156) 5 C dX3_carryOut_155 rfl rfl rfl ?_
                  refine U_iload (n := 158) 0 C dX3_carryOut_156 rfl rfl ?_
                  obtain ⟨h32, ev31, hf⟩ := bsome hf
                  refine cv_RX3_108 (n := 161) C dX3_carryOut_158 (av := [.int v26]) rfl (rc_X3_takeAway ev31) (M_X3_takeAway ev31) (Nat.le_of_ble_eq_true rfl) (Nat.zero_le _) (Nat.zero_le _) (Nat.le_of_ble_eq_true rfl) rfl ?_
                  refine U_iconst (n := 162) (1 : Int32) C dX3_carryOut_161 kiconst_1 rfl ?_
                  obtain ⟨hr1, hr2⟩ := Prod.mk.inj (Option.some.inj hf)
                  subst hr1; subst hr2
                  subst hQ
                  exact U_zret C dX3_carryOut_162 (Or.inr rfl) (Nat.le_refl 0) (Nat.le_refl 0)
                · replace hf := (if_neg c30).symm.trans hf
                  refine U_iconst (n := 154) (0 : Int32) C dX3_carryOut_153 kiconst_0 rfl ?_
                  obtain ⟨hr1, hr2⟩ := Prod.mk.inj (Option.some.inj hf)
                  subst hr1; subst hr2
                  subst hQ
                  exact U_zret C dX3_carryOut_154 (Or.inl rfl) (Nat.le_refl 0) (Nat.le_refl 0)
              · replace hf := (if_neg c24).symm.trans hf
                refine U_aload_n (n := 111) 4 C dX3_carryOut_110 rfl rfl rfl ?_
                refine U_iload_n (n := 112) 2 C dX3_carryOut_111 rfl rfl ?_
                refine U_iload (n := 114) 1 C dX3_carryOut_112 rfl rfl ?_
                refine U_iload (n := 116) 0 C dX3_carryOut_114 rfl rfl ?_
                refine U_iload_n (n := 117) 3 C dX3_carryOut_116 rfl rfl ?_
                obtain ⟨v33, ev33, hf⟩ := bsome hf
                refine cv_RX3_399 (n := 120) C dX3_carryOut_117 (av := [.int v3]) rfl (M_X1_signOf ev33) (Nat.le_of_ble_eq_true rfl) (Nat.zero_le _) (Nat.zero_le _) (Nat.le_of_ble_eq_true rfl) rfl ?_
                obtain ⟨h35, ev34, hf⟩ := bsome hf
                refine cv_RX3_93 (n := 123) C dX3_carryOut_120 (av := [.int v11, .int v13, .int v15, .int v33]) rfl (rc_X3_giveOrdered ev34) (M_X3_giveOrdered ev34) (Nat.le_of_ble_eq_true rfl) (Nat.zero_le _) (Nat.zero_le _) (Nat.le_of_ble_eq_true rfl) rfl ?_
                refine U_iconst (n := 124) (1 : Int32) C dX3_carryOut_123 kiconst_1 rfl ?_
                obtain ⟨hr1, hr2⟩ := Prod.mk.inj (Option.some.inj hf)
                subst hr1; subst hr2
                subst hQ
                exact U_zret C dX3_carryOut_124 (Or.inr rfl) (Nat.le_refl 0) (Nat.le_refl 0)
def l_X3_run_26 (p0 : Nat) : Nat → Int32 → Hp → Option (Int32 × Hp)
  | 0, _, _ => none
  | fuel + 1, x2, h =>
    (fR 3 2 h p0).bind fun v7 =>
    (fI 1 4 h v7).bind fun v8 =>
    if v8 ≤ x2 then (
      some ((x2, h))
    ) else (
      bind2 (f_X3_carryOut p0 x2 h) fun v10 h11 =>
      if v10 = 0 then (
        some ((x2, h11))
      ) else (
        l_X3_run_26 p0 fuel (x2 + 1) h11
      )
    )
def f_X3_run (o : Nat) (h : Hp) : Option (Int32 × Hp) :=
  (rc 3 h o).bind fun _ =>
  (fR 3 2 h o).bind fun v1 =>
  bind2 (f_X1_parse v1 h) fun v2 h3 =>
  if v2 = (-100 : Int32) then (
    (f_X3_save o h3).bind fun h6 =>
    bind2 (l_X3_run_26 o FU (0 : Int32) h6) fun v13 h14 =>
    some ((v13, h14))
  ) else (
    some ((((-1000 : Int32) - v2), h3))
  )
set_option maxHeartbeats 2000000 in
set_option maxRecDepth 20000 in
theorem L_X3_run_26 {g : GT} {Γ : CT} {Q : State → Prop} {mc ms : Nat} (C : Cx g Γ cX3_run RX3 "run" 3 (some .int) 12 mc ms) {p0 : Nat} : ∀ {fuel : Nat} {x2 : Int32} {h : Hp} {y2 : Int32} {hy : Hp}, l_X3_run_26 p0 fuel x2 h = some (y2, hy) → U g Γ 3 Q 0 0 51 [(2, .int y2)] [] hy → U g Γ 3 Q 0 0 26 [(0, .ref p0), (2, .int x2)] [] h := by
  intro fuel
  induction fuel with
  | zero =>
    intro x2 h y2 hy hf J0
    simp only [l_X3_run_26, reduceCtorEq] at hf
  | succ fuel ih =>
    intro x2 h y2 hy hf J0
    rw [l_X3_run_26] at hf
    refine U_iload_n (n := 27) 1 C dX3_run_26 rfl rfl ?_
    refine U_aload_n (n := 28) 0 C dX3_run_27 rfl rfl rfl ?_
    refine gf_RX3_26 (n := 31) C dX3_run_28 hf rfl (fun v7 hf => ?_)
    refine gf_RX3_261 (n := 34) C dX3_run_31 hf rfl (fun v8 hf => ?_)
    refine U_icge (tgt := 51) (n := 37) C dX3_run_34 (by decide) rfl (fun c9 => ?_) (fun c9 => ?_)
    · replace hf := (if_pos c9).symm.trans hf
      obtain ⟨hr0, hs0⟩ := Prod.mk.inj (Option.some.inj hf)
      subst hr0
      subst hs0
      exact U_lv [1] rfl J0
    · replace hf := (if_neg c9).symm.trans hf
      refine U_aload_n (n := 38) 0 C dX3_run_37 rfl rfl rfl ?_
      refine U_iload_n (n := 39) 1 C dX3_run_38 rfl rfl ?_
      obtain ⟨v10, h11, ev10, hf⟩ := bsome2 hf
      refine cv_RX3_264 (n := 42) C dX3_run_39 (av := [.int x2]) rfl (rc_X3_carryOut ev10) (M_X3_carryOut ev10) (Nat.le_of_ble_eq_true rfl) (Nat.zero_le _) (Nat.zero_le _) (Nat.le_of_ble_eq_true rfl) rfl ?_
      refine U_ifeq (tgt := 51) (n := 45) C dX3_run_42 (by decide) rfl (fun c12 => ?_) (fun c12 => ?_)
      · replace hf := (if_pos c12).symm.trans hf
        obtain ⟨hr0, hs0⟩ := Prod.mk.inj (Option.some.inj hf)
        subst hr0
        subst hs0
        exact U_lv [1] rfl J0
      · replace hf := (if_neg c12).symm.trans hf
        refine U_iinc (n := 48) (v := (x2 + 1)) (lv2 := [(2, .int (x2 + 1)), (0, .ref p0)]) 1 C dX3_run_45 rfl rfl (by decide) rfl rfl ?_
        refine U_goto (n := 0) (tgt := 26) C dX3_run_48 (by decide) ?_
        exact U_lv [1, 0] rfl (ih hf J0)
theorem rc_X3_run {o : Nat} {h : Hp} {z} (hf : f_X3_run o h = some z) : rc 3 h o = some () := by
  unfold f_X3_run at hf
  exact (bsome hf).choose_spec.1
set_option maxHeartbeats 2000000 in
set_option maxRecDepth 20000 in
theorem M_X3_run {g : GT} {o : Nat} {h : Hp} {r : Int32} {h2 : Hp} (hf : f_X3_run o h = some (r, h2)) : CM g yX3_run cX3_run 3 (some .int) 12 0 0 [.ref o] h (.inr (some (.int r))) h2 := by
  refine CM_of rfl (fun _ => Nat.le_of_ble_eq_true rfl) (fun Γ C hn0 => ?_)
  have C : Cx g Γ cX3_run RX3 "run" 3 (some .int) 12 0 0 := C
  generalize hQ : Qe g Γ (.inr (some (.int r))) h2 0 0 = Q
  show U g Γ 3 Q 0 0 0 [(0, .ref o)] [] h
  unfold f_X3_run at hf
  replace hf := (bsome hf).choose_spec.2
  refine U_aload_n (n := 1) 0 C dX3_run_0 rfl rfl rfl ?_
  refine gf_RX3_26 (n := 4) C dX3_run_1 hf rfl (fun v1 hf => ?_)
  obtain ⟨v2, h3, ev2, hf⟩ := bsome2 hf
  refine cv_RX3_258 (n := 7) C dX3_run_4 (av := []) rfl (rc_X1_parse ev2) (M_X1_parse ev2) (Nat.le_of_ble_eq_true rfl) (Nat.zero_le _) (Nat.zero_le _) (Nat.le_of_ble_eq_true rfl) rfl ?_
  refine U_istore_n (n := 8) (lv2 := [(1, .int v2), (0, .ref o)]) C dX3_run_7 (by decide) rfl rfl ?_
  refine U_iload_n (n := 9) 0 C dX3_run_8 rfl rfl ?_
  refine U_bipush (n := 11) (-100 : Int32) C dX3_run_9 kbipush_m100 rfl ?_
  refine U_iceq (tgt := 20) (n := 14) C dX3_run_11 (by decide) rfl (fun c4 => ?_) (fun c4 => ?_)
  · replace hf := (if_pos c4).symm.trans hf
    refine U_aload_n (n := 21) 1 C dX3_run_20 rfl rfl rfl ?_
    obtain ⟨h6, ev5, hf⟩ := bsome hf
    refine cv_RX3_74 (n := 24) C dX3_run_21 (av := []) rfl (rc_X3_save ev5) (M_X3_save ev5) (Nat.le_of_ble_eq_true rfl) (Nat.zero_le _) (Nat.zero_le _) (Nat.le_of_ble_eq_true rfl) rfl ?_
    refine U_iconst (n := 25) (0 : Int32) C dX3_run_24 kiconst_0 rfl ?_
    refine U_istore_n (n := 26) (lv2 := [(2, .int (0 : Int32)), (1, .int v2), (0, .ref o)]) C dX3_run_25 (by decide) rfl rfl ?_
    refine U_join2 (fun v13 h14 => U g Γ 3 Q 0 0 51 [(2, .int v13)] [] h14) hf (fun v13 h14 hf => ?_) (fun v13 h14 hf J => U_lv [2, 0] rfl (L_X3_run_26 C hf J))
    refine U_iload_n (n := 52) 0 C dX3_run_51 rfl rfl ?_
    obtain ⟨hr1, hr2⟩ := Prod.mk.inj (Option.some.inj hf)
    subst hr1; subst hr2
    subst hQ
    exact U_iret C dX3_run_52 (Nat.le_refl 0) (Nat.le_refl 0)
  · replace hf := (if_neg c4).symm.trans hf
    refine U_sipush (n := 17) (-1000 : Int32) C dX3_run_14 ksipush_m1000 rfl ?_
    refine U_iload_n (n := 18) 0 C dX3_run_17 rfl rfl ?_
    refine U_isub (n := 19) C dX3_run_18 rfl ?_
    obtain ⟨hr1, hr2⟩ := Prod.mk.inj (Option.some.inj hf)
    subst hr1; subst hr2
    subst hQ
    exact U_iret C dX3_run_19 (Nat.le_refl 0) (Nat.le_refl 0)
def f_X3_writtenIn (o : Nat) (a1 : Int32) (a2 : UInt32) (a3 : Int32) (h : Hp) : Option Int32 :=
  (rc 3 h o).bind fun _ =>
  (sLen a2).bind fun v1 =>
  bindR0 (
    if a3 < 0 then (
      some (Sum.inl ())
    ) else (
      if 0 ≤ (a3 - v1) then (
        some (Sum.inl ())
      ) else (
        (sCh a2 a3).bind fun v11 =>
        some (.inr (v11))
      )
    )
  ) fun _ =>
  if (a3 - v1) = 0 then (
    some ((32 : Int32))
  ) else (
    if (a3 - v1) ≤ (3 : Int32) then (
      (fR 3 0 h o).bind fun v8 =>
      (f_X0_corner v8 a1 ((a3 - v1) - (1 : Int32)) h).bind fun v9 =>
      some (((97 : Int32) + v9))
    ) else (
      some ((59 : Int32))
    )
  )
theorem rc_X3_writtenIn {o : Nat} {a1 : Int32} {a2 : UInt32} {a3 : Int32} {h : Hp} {z} (hf : f_X3_writtenIn o a1 a2 a3 h = some z) : rc 3 h o = some () := by
  unfold f_X3_writtenIn at hf
  exact (bsome hf).choose_spec.1
set_option maxHeartbeats 2000000 in
set_option maxRecDepth 20000 in
theorem M_X3_writtenIn {g : GT} {o : Nat} {a1 : Int32} {a2 : UInt32} {a3 : Int32} {h : Hp} {r : Int32} (hf : f_X3_writtenIn o a1 a2 a3 h = some r) : CM g yX3_writtenIn cX3_writtenIn 5 (some .int) 7 0 0 [.ref o, .int a1, .float a2, .int a3] h (.inr (some (.int r))) h := by
  refine CM_of rfl (fun _ => Nat.le_of_ble_eq_true rfl) (fun Γ C hn0 => ?_)
  have C : Cx g Γ cX3_writtenIn RX3 "writtenIn" 5 (some .int) 7 0 0 := C
  generalize hQ : Qe g Γ (.inr (some (.int r))) h 0 0 = Q
  show U g Γ 5 Q 0 0 0 [(0, .ref o), (1, .int a1), (2, .float a2), (3, .int a3)] [] h
  unfold f_X3_writtenIn at hf
  replace hf := (bsome hf).choose_spec.2
  refine U_iload_n (n := 1) 3 C dX3_writtenIn_0 rfl rfl ?_
  refine U_aload_n (n := 2) 2 C dX3_writtenIn_1 rfl rfl rfl ?_
  refine U_slen_RX3_278 (n := 5) C dX3_writtenIn_2 (by decide) (Nat.le_of_ble_eq_true rfl) hf rfl (fun v1 hf => ?_)
  refine U_isub (n := 6) C dX3_writtenIn_5 rfl ?_
  refine U_istore (n := 8) (lv2 := [(4, .int (a3 - v1)), (0, .ref o), (1, .int a1), (2, .float a2), (3, .int a3)]) C dX3_writtenIn_6 (by decide) rfl rfl ?_
  refine U_iload_n (n := 9) 4 C dX3_writtenIn_8 rfl rfl ?_
  refine U_joinR0 (U g Γ 5 Q 0 0 23 [(0, .ref o), (1, .int a1), (4, .int (a3 - v1))] [] h) hf (fun hf => ?_) (fun o3 hf J4 R5 => ?_)
  · skip
    refine U_iload (n := 25) 2 C dX3_writtenIn_23 rfl rfl ?_
    refine U_ifne (tgt := 31) (n := 28) C dX3_writtenIn_25 (by decide) rfl (fun c6 => ?_) (fun c6 => ?_)
    · replace hf := (if_pos c6).symm.trans hf
      refine U_bipush (n := 30) (32 : Int32) C dX3_writtenIn_28 kbipush_32 rfl ?_
      have hr := (Option.some.inj hf)
      subst hr
      subst hQ
      exact U_iret C dX3_writtenIn_30 (Nat.le_refl 0) (Nat.le_refl 0)
    · replace hf := (if_neg c6).symm.trans hf
      refine U_iload (n := 33) 2 C dX3_writtenIn_31 rfl rfl ?_
      refine U_iconst (n := 34) (3 : Int32) C dX3_writtenIn_33 kiconst_3 rfl ?_
      refine U_icle (tgt := 42) (n := 37) C dX3_writtenIn_34 (by decide) rfl (fun c7 => ?_) (fun c7 => ?_)
      · replace hf := (if_pos c7).symm.trans hf
        refine U_bipush (n := 44) (97 : Int32) C dX3_writtenIn_42 kbipush_97 rfl ?_
        refine U_aload_n (n := 45) 0 C dX3_writtenIn_44 rfl rfl rfl ?_
        refine gf_RX3_10 (n := 48) C dX3_writtenIn_45 hf rfl (fun v8 hf => ?_)
        refine U_iload_n (n := 49) 1 C dX3_writtenIn_48 rfl rfl ?_
        refine U_iload (n := 51) 2 C dX3_writtenIn_49 rfl rfl ?_
        refine U_iconst (n := 52) (1 : Int32) C dX3_writtenIn_51 kiconst_1 rfl ?_
        refine U_isub (n := 53) C dX3_writtenIn_52 rfl ?_
        obtain ⟨v9, ev9, hf⟩ := bsome hf
        refine cv_RX3_148 (n := 56) C dX3_writtenIn_53 (av := [.int a1, .int ((a3 - v1) - (1 : Int32))]) rfl (rc_X0_corner ev9) (M_X0_corner ev9) (Nat.le_of_ble_eq_true rfl) (Nat.zero_le _) (Nat.zero_le _) (Nat.le_of_ble_eq_true rfl) rfl ?_
        refine U_iadd (n := 57) C dX3_writtenIn_56 rfl ?_
        have hr := (Option.some.inj hf)
        subst hr
        subst hQ
        exact U_iret C dX3_writtenIn_57 (Nat.le_refl 0) (Nat.le_refl 0)
      · replace hf := (if_neg c7).symm.trans hf
        refine U_bipush (n := 39) (59 : Int32) C dX3_writtenIn_37 kbipush_59 rfl ?_
        refine U_goto (n := 0) (tgt := 57) C dX3_writtenIn_39 (by decide) ?_
        have hr := (Option.some.inj hf)
        subst hr
        subst hQ
        exact U_iret C dX3_writtenIn_57 (Nat.le_refl 0) (Nat.le_refl 0)
  · skip
    refine U_iflt (tgt := 23) (n := 12) C dX3_writtenIn_9 (by decide) rfl (fun c2 => ?_) (fun c2 => ?_)
    · replace hf := (if_pos c2).symm.trans hf
      have hr := Option.some.inj hf
      subst hr
      exact U_lv [1, 2, 0] rfl (J4 rfl)
    · replace hf := (if_neg c2).symm.trans hf
      refine U_iload (n := 14) 0 C dX3_writtenIn_12 rfl rfl ?_
      refine U_ifge (tgt := 23) (n := 17) C dX3_writtenIn_14 (by decide) rfl (fun c10 => ?_) (fun c10 => ?_)
      · replace hf := (if_pos c10).symm.trans hf
        have hr := Option.some.inj hf
        subst hr
        exact U_lv [1, 2, 0] rfl (J4 rfl)
      · replace hf := (if_neg c10).symm.trans hf
        refine U_aload_n (n := 18) 3 C dX3_writtenIn_17 rfl rfl rfl ?_
        refine U_iload_n (n := 19) 4 C dX3_writtenIn_18 rfl rfl ?_
        refine U_sch_RX3_402 (n := 22) C dX3_writtenIn_19 (by decide) (Nat.le_of_ble_eq_true rfl) hf rfl (fun v11 hf => ?_)
        have hr := Option.some.inj hf
        subst hr
        have hr := (R5 _ rfl)
        subst hr
        subst hQ
        exact U_iret C dX3_writtenIn_22 (Nat.le_refl 0) (Nat.le_refl 0)
def l_X3_written_19 (p0 : Nat) (h : Hp) : Nat → Int32 → Int32 → Option (Unit ⊕ (Nat ⊕ Int32))
  | 0, _, _ => none
  | fuel + 1, x2, x3 =>
    (fR 3 0 h p0).bind fun v2 =>
    (fI 0 1 h v2).bind fun v3 =>
    if v3 ≤ x3 then (
      some (.inl ())
    ) else (
      (fR 3 1 h p0).bind fun v5 =>
      (fR 2 4 h v5).bind fun v6 =>
      (aI h v6 x3).bind fun v7 =>
      bindQ1 (
        if v7 = (1 : Int32) then (
          (fR 3 1 h p0).bind fun v13 =>
          (fR 2 3 h v13).bind fun v14 =>
          (aI h v14 x3).bind fun v15 =>
          (f_X1_wordFor v15).bind fun v16 =>
          (f_X1_spelling v16).bind fun v17 =>
          (sLen v17).bind fun v18 =>
          if (v18 + (5 : Int32)) ≤ x2 then (
            some (Sum.inl (x2 - (v18 + (5 : Int32))))
          ) else (
            (f_X3_writtenIn p0 x3 v17 x2 h).bind fun v20 =>
            some (.inr (.inr v20))
          )
        ) else (
          some (Sum.inl x2)
        )
      ) fun v9 =>
      l_X3_written_19 p0 h fuel v9 (x3 + 1)
    )
def f_X3_written (o : Nat) (a1 : Int32) (h : Hp) : Option (Nat ⊕ Int32) :=
  (rc 3 h o).bind fun _ =>
  if 0 ≤ a1 then (
    bindR0 (l_X3_written_19 o h FU a1 (0 : Int32)) fun _ =>
    some (.inr (-100 : Int32))
  ) else (
    some (.inl 0)
  )
set_option maxHeartbeats 2000000 in
set_option maxRecDepth 20000 in
theorem L_X3_written_19 {g : GT} {Γ : CT} {Q : State → Prop} {mc ms : Nat} (C : Cx g Γ cX3_written RX3 "written" 6 (some .int) 8 mc ms) {p0 : Nat} {h : Hp} : ∀ {fuel : Nat} {x2 : Int32} {x3 : Int32} {out : (Unit ⊕ (Nat ⊕ Int32))}, l_X3_written_19 p0 h fuel x2 x3 = some out → (out = .inl () → U g Γ 6 Q 0 0 95 [] [] h) → (∀ r, out = .inr r → (Qe g Γ (rI r) h 0 0 = Q ∧ mc = 0 + er (rI r) ∧ ms = 0 + 6 * er (rI r))) → U g Γ 6 Q 0 0 19 [(0, .ref p0), (2, .int x2), (3, .int x3)] [] h := by
  intro fuel
  induction fuel with
  | zero =>
    intro x2 x3 out hf J0 R0
    simp only [l_X3_written_19, reduceCtorEq] at hf
  | succ fuel ih =>
    intro x2 x3 out hf J0 R0
    rw [l_X3_written_19] at hf
    refine U_iload_n (n := 20) 2 C dX3_written_19 rfl rfl ?_
    refine U_aload_n (n := 21) 0 C dX3_written_20 rfl rfl rfl ?_
    refine gf_RX3_10 (n := 24) C dX3_written_21 hf rfl (fun v2 hf => ?_)
    refine gf_RX3_77 (n := 27) C dX3_written_24 hf rfl (fun v3 hf => ?_)
    refine U_icge (tgt := 95) (n := 30) C dX3_written_27 (by decide) rfl (fun c4 => ?_) (fun c4 => ?_)
    · replace hf := (if_pos c4).symm.trans hf
      have hr := Option.some.inj hf
      subst hr
      exact U_lv [] rfl (J0 rfl)
    · replace hf := (if_neg c4).symm.trans hf
      refine U_aload_n (n := 31) 0 C dX3_written_30 rfl rfl rfl ?_
      refine gf_RX3_19 (n := 34) C dX3_written_31 hf rfl (fun v5 hf => ?_)
      refine gf_RX3_100 (n := 37) C dX3_written_34 hf rfl (fun v6 hf => ?_)
      refine U_iload_n (n := 38) 2 C dX3_written_37 rfl rfl ?_
      refine U_iald (n := 39) C dX3_written_38 hf rfl (fun v7 hf => ?_)
      refine U_iconst (n := 40) (1 : Int32) C dX3_written_39 kiconst_1 rfl ?_
      refine U_joinQ1 (fun v9 => U g Γ 6 Q 0 0 89 [(0, .ref p0), (2, .int v9), (3, .int x3)] [] h) hf (fun v9 hf => ?_) (fun o10 hf J11 R12 => ?_)
      · skip
        refine U_iinc (n := 92) (v := (x3 + 1)) (lv2 := [(3, .int (x3 + 1)), (0, .ref p0), (2, .int v9)]) 2 C dX3_written_89 rfl rfl (by decide) rfl rfl ?_
        refine U_goto (n := 0) (tgt := 19) C dX3_written_92 (by decide) ?_
        exact U_lv [1, 2, 0] rfl (ih hf J0 R0)
      · skip
        refine U_icne (tgt := 89) (n := 43) C dX3_written_40 (by decide) rfl (fun c8 => ?_) (fun c8 => ?_)
        · replace hf := (if_pos c8).symm.trans hf
          refine U_aload_n (n := 44) 0 C dX3_written_43 rfl rfl rfl ?_
          refine gf_RX3_19 (n := 47) C dX3_written_44 hf rfl (fun v13 hf => ?_)
          refine gf_RX3_129 (n := 50) C dX3_written_47 hf rfl (fun v14 hf => ?_)
          refine U_iload_n (n := 51) 2 C dX3_written_50 rfl rfl ?_
          refine U_iald (n := 52) C dX3_written_51 hf rfl (fun v15 hf => ?_)
          obtain ⟨v16, ev16, hf⟩ := bsome hf
          refine cv_RX3_270 (n := 55) C dX3_written_52 (av := [.int v15]) rfl (M_X1_wordFor ev16) (Nat.le_of_ble_eq_true rfl) (Nat.zero_le _) (Nat.zero_le _) (Nat.le_of_ble_eq_true rfl) rfl ?_
          obtain ⟨v17, ev17, hf⟩ := bsome hf
          refine cv_RX3_274 (n := 58) C dX3_written_55 (av := [.int v16]) rfl (M_X1_spelling ev17) (Nat.le_of_ble_eq_true rfl) (Nat.zero_le _) (Nat.zero_le _) (Nat.le_of_ble_eq_true rfl) rfl ?_
          refine U_astore (n := 60) (lv2 := [(4, .float v17), (0, .ref p0), (2, .int x2), (3, .int x3)]) C dX3_written_58 rfl (by decide) rfl rfl ?_
          refine U_aload (n := 62) 0 C dX3_written_60 rfl rfl rfl ?_
          refine U_slen_RX3_278 (n := 65) C dX3_written_62 (by decide) (Nat.le_of_ble_eq_true rfl) hf rfl (fun v18 hf => ?_)
          refine U_iconst (n := 66) (5 : Int32) C dX3_written_65 kiconst_5 rfl ?_
          refine U_iadd (n := 67) C dX3_written_66 rfl ?_
          refine U_istore (n := 69) (lv2 := [(5, .int (v18 + (5 : Int32))), (4, .float v17), (0, .ref p0), (2, .int x2), (3, .int x3)]) C dX3_written_67 (by decide) rfl rfl ?_
          refine U_iload_n (n := 70) 3 C dX3_written_69 rfl rfl ?_
          refine U_iload (n := 72) 0 C dX3_written_70 rfl rfl ?_
          refine U_icge (tgt := 84) (n := 75) C dX3_written_72 (by decide) rfl (fun c19 => ?_) (fun c19 => ?_)
          · replace hf := (if_pos c19).symm.trans hf
            refine U_iload_n (n := 85) 3 C dX3_written_84 rfl rfl ?_
            refine U_iload (n := 87) 0 C dX3_written_85 rfl rfl ?_
            refine U_isub (n := 88) C dX3_written_87 rfl ?_
            refine U_istore_n (n := 89) (lv2 := [(2, .int (x2 - (v18 + (5 : Int32)))), (5, .int (v18 + (5 : Int32))), (4, .float v17), (0, .ref p0), (3, .int x3)]) C dX3_written_88 (by decide) rfl rfl ?_
            have hr := Option.some.inj hf
            subst hr
            exact U_lv [3, 0, 4] rfl (J11 _ rfl)
          · replace hf := (if_neg c19).symm.trans hf
            refine U_aload_n (n := 76) 2 C dX3_written_75 rfl rfl rfl ?_
            refine U_iload_n (n := 77) 4 C dX3_written_76 rfl rfl ?_
            refine U_aload (n := 79) 1 C dX3_written_77 rfl rfl rfl ?_
            refine U_iload_n (n := 80) 3 C dX3_written_79 rfl rfl ?_
            obtain ⟨v20, ev20, hf⟩ := bsome hf
            refine cv_RX3_282 (n := 83) C dX3_written_80 (av := [.int x3, .float v17, .int x2]) rfl (rc_X3_writtenIn ev20) (M_X3_writtenIn ev20) (Nat.le_of_ble_eq_true rfl) (Nat.zero_le _) (Nat.zero_le _) (Nat.le_of_ble_eq_true rfl) rfl ?_
            have hr := Option.some.inj hf
            subst hr
            have hQ := R0 _ (R12 _ rfl)
            obtain ⟨hQ, hq1, hq2⟩ := hQ
            subst hq1; subst hq2
            subst hQ
            exact U_iret C dX3_written_83 (Nat.le_refl 0) (Nat.le_refl 0)
        · replace hf := (if_neg c8).symm.trans hf
          have hr := Option.some.inj hf
          subst hr
          exact U_lv [0, 1, 2] rfl (J11 _ rfl)
theorem rc_X3_written {o : Nat} {a1 : Int32} {h : Hp} {z} (hf : f_X3_written o a1 h = some z) : rc 3 h o = some () := by
  unfold f_X3_written at hf
  exact (bsome hf).choose_spec.1
set_option maxHeartbeats 2000000 in
set_option maxRecDepth 20000 in
theorem M_X3_written {g : GT} {o : Nat} {a1 : Int32} {h : Hp} {r : (Nat ⊕ Int32)} (hf : f_X3_written o a1 h = some r) : CM g yX3_written cX3_written 6 (some .int) 8 0 0 [.ref o, .int a1] h (rI r) h := by
  refine CM_of rfl (fun _ => Nat.le_of_ble_eq_true rfl) (fun Γ C hn0 => ?_)
  have C : Cx g Γ cX3_written RX3 "written" 6 (some .int) 8 (0 + er (rI r)) (0 + 6 * er (rI r)) := C
  generalize hQ : Qe g Γ (rI r) h 0 0 = Q
  show U g Γ 6 Q 0 0 0 [(0, .ref o), (1, .int a1)] [] h
  unfold f_X3_written at hf
  replace hf := (bsome hf).choose_spec.2
  refine U_iload_n (n := 1) 1 C dX3_written_0 rfl rfl ?_
  refine U_ifge (tgt := 15) (n := 4) C dX3_written_1 (by decide) rfl (fun c1 => ?_) (fun c1 => ?_)
  · replace hf := (if_pos c1).symm.trans hf
    refine U_iload_n (n := 16) 1 C dX3_written_15 rfl rfl ?_
    refine U_istore_n (n := 17) (lv2 := [(2, .int a1), (0, .ref o), (1, .int a1)]) C dX3_written_16 (by decide) rfl rfl ?_
    refine U_iconst (n := 18) (0 : Int32) C dX3_written_17 kiconst_0 rfl ?_
    refine U_istore_n (n := 19) (lv2 := [(3, .int (0 : Int32)), (2, .int a1), (0, .ref o), (1, .int a1)]) C dX3_written_18 (by decide) rfl rfl ?_
    refine U_joinR0 (U g Γ 6 Q 0 0 95 [] [] h) hf (fun hf => ?_) (fun o23 hf J21 R22 => U_lv [2, 1, 0] rfl (L_X3_written_19 C hf J21 ?_))
    rotate_left
    · intro r hr
      have hr := (R22 r hr)
      subst hr
      exact ⟨hQ, rfl, rfl⟩
    refine U_bipush (n := 97) (-100 : Int32) C dX3_written_95 kbipush_m100 rfl ?_
    have hr := (Option.some.inj hf)
    subst hr
    subst hQ
    exact U_iret C dX3_written_97 (Nat.le_refl 0) (Nat.le_refl 0)
  · replace hf := (if_neg c1).symm.trans hf
    have hr := (Option.some.inj hf)
    subst hr
    subst hQ
    exact U_throwW 0 C xown_RX3 rfl xfit_0 xcl_0 xin_0 xsr_268 xat_0 xgood_0 dX3_written_4 dX3_written_7 dX3_written_8 dX3_written_11 dX3_written_14 (Nat.le_of_ble_eq_true rfl) (Nat.le_refl _) (Nat.le_refl _) rfl rfl
def f_X3_undo (o : Nat) (h : Hp) : Option ((Nat ⊕ Int32) × Hp) :=
  (rc 3 h o).bind fun _ =>
  (fI 3 4 h o).bind fun v1 =>
  if v1 < (1 : Int32) then (
    some ((.inl 2, h))
  ) else (
    (fI 3 4 h o).bind fun v3 =>
    if v3 ≤ (4 : Int32) then (
      (fI 3 4 h o).bind fun v5 =>
      (sF 3 4 (.int (v5 - (1 : Int32))) h o).bind fun h6 =>
      (fR 3 1 h6 o).bind fun v7 =>
      (fR 3 3 h6 o).bind fun v8 =>
      (fI 3 4 h6 o).bind fun v9 =>
      (aQ h6 v8 v9).bind fun v10 =>
      (f_X2_copyFrom v7 v10 h6).bind fun h12 =>
      (fR 3 0 h12 o).bind fun v13 =>
      (fI 0 0 h12 v13).bind fun v14 =>
      (fR 3 1 h12 o).bind fun v15 =>
      (fI 2 0 h12 v15).bind fun v16 =>
      if v14 = v16 then (
        (fI 3 4 h12 o).bind fun v18 =>
        some ((.inr v18, h12))
      ) else (
        (fR 3 0 h12 o).bind fun v19 =>
        (fR 3 1 h12 o).bind fun v20 =>
        (fI 2 0 h12 v20).bind fun v21 =>
        (f_X0_arrange v19 v21 h12).bind fun h23 =>
        (fI 3 4 h23 o).bind fun v24 =>
        some ((.inr v24, h23))
      )
    ) else (
      some ((.inl 2, h))
    )
  )
theorem rc_X3_undo {o : Nat} {h : Hp} {z} (hf : f_X3_undo o h = some z) : rc 3 h o = some () := by
  unfold f_X3_undo at hf
  exact (bsome hf).choose_spec.1
set_option maxHeartbeats 2000000 in
set_option maxRecDepth 20000 in
theorem M_X3_undo {g : GT} {o : Nat} {h : Hp} {r : (Nat ⊕ Int32)} {h2 : Hp} (hf : f_X3_undo o h = some (r, h2)) : CM g yX3_undo cX3_undo 1 (some .int) 11 0 0 [.ref o] h (rI r) h2 := by
  refine CM_of rfl (fun _ => Nat.le_of_ble_eq_true rfl) (fun Γ C hn0 => ?_)
  have C : Cx g Γ cX3_undo RX3 "undo" 1 (some .int) 11 (0 + er (rI r)) (0 + 6 * er (rI r)) := C
  generalize hQ : Qe g Γ (rI r) h2 0 0 = Q
  show U g Γ 1 Q 0 0 0 [(0, .ref o)] [] h
  unfold f_X3_undo at hf
  replace hf := (bsome hf).choose_spec.2
  refine U_aload_n (n := 1) 0 C dX3_undo_0 rfl rfl rfl ?_
  refine gf_RX3_34 (n := 4) C dX3_undo_1 hf rfl (fun v1 hf => ?_)
  refine U_iconst (n := 5) (1 : Int32) C dX3_undo_4 kiconst_1 rfl ?_
  refine U_iclt (tgt := 16) (n := 8) C dX3_undo_5 (by decide) rfl (fun c2 => ?_) (fun c2 => ?_)
  · replace hf := (if_pos c2).symm.trans hf
    obtain ⟨hr1, hr2⟩ := Prod.mk.inj (Option.some.inj hf)
    subst hr1; subst hr2
    subst hQ
    exact U_throwW 2 C xown_RX3 rfl xfit_2 xcl_2 xin_2 xsr_286 xat_2 xgood_2 dX3_undo_16 dX3_undo_19 dX3_undo_20 dX3_undo_23 dX3_undo_26 (Nat.le_of_ble_eq_true rfl) (Nat.le_refl _) (Nat.le_refl _) rfl rfl
  · replace hf := (if_neg c2).symm.trans hf
    refine U_aload_n (n := 9) 0 C dX3_undo_8 rfl rfl rfl ?_
    refine gf_RX3_34 (n := 12) C dX3_undo_9 hf rfl (fun v3 hf => ?_)
    refine U_iconst (n := 13) (4 : Int32) C dX3_undo_12 kiconst_4 rfl ?_
    refine U_icle (tgt := 27) (n := 16) C dX3_undo_13 (by decide) rfl (fun c4 => ?_) (fun c4 => ?_)
    · replace hf := (if_pos c4).symm.trans hf
      refine U_aload_n (n := 28) 0 C dX3_undo_27 rfl rfl rfl ?_
      refine U_dup (n := 29) C dX3_undo_28 rfl rfl ?_
      refine gf_RX3_34 (n := 32) C dX3_undo_29 hf rfl (fun v5 hf => ?_)
      refine U_iconst (n := 33) (1 : Int32) C dX3_undo_32 kiconst_1 rfl ?_
      refine U_isub (n := 34) C dX3_undo_33 rfl ?_
      refine pf_RX3_34 (n := 37) C dX3_undo_34 hf rfl (fun h6 hf => ?_)
      refine U_aload_n (n := 38) 0 C dX3_undo_37 rfl rfl rfl ?_
      refine gf_RX3_19 (n := 41) C dX3_undo_38 hf rfl (fun v7 hf => ?_)
      refine U_aload_n (n := 42) 0 C dX3_undo_41 rfl rfl rfl ?_
      refine gf_RX3_30 (n := 45) C dX3_undo_42 hf rfl (fun v8 hf => ?_)
      refine U_aload_n (n := 46) 0 C dX3_undo_45 rfl rfl rfl ?_
      refine gf_RX3_34 (n := 49) C dX3_undo_46 hf rfl (fun v9 hf => ?_)
      refine U_aald (n := 50) C dX3_undo_49 hf rfl (fun v10 hf => ?_)
      obtain ⟨h12, ev11, hf⟩ := bsome hf
      refine cv_RX3_288 (n := 53) C dX3_undo_50 (av := [.ref v10]) rfl (rc_X2_copyFrom ev11) (M_X2_copyFrom ev11) (Nat.le_of_ble_eq_true rfl) (Nat.zero_le _) (Nat.zero_le _) (Nat.le_of_ble_eq_true rfl) rfl ?_
      refine U_aload_n (n := 54) 0 C dX3_undo_53 rfl rfl rfl ?_
      refine gf_RX3_10 (n := 57) C dX3_undo_54 hf rfl (fun v13 hf => ?_)
      refine gf_RX3_163 (n := 60) C dX3_undo_57 hf rfl (fun v14 hf => ?_)
      refine U_aload_n (n := 61) 0 C dX3_undo_60 rfl rfl rfl ?_
      refine gf_RX3_19 (n := 64) C dX3_undo_61 hf rfl (fun v15 hf => ?_)
      refine gf_RX3_292 (n := 67) C dX3_undo_64 hf rfl (fun v16 hf => ?_)
      refine U_iceq (tgt := 84) (n := 70) C dX3_undo_67 (by decide) rfl (fun c17 => ?_) (fun c17 => ?_)
      · replace hf := (if_pos c17).symm.trans hf
        refine U_aload_n (n := 85) 0 C dX3_undo_84 rfl rfl rfl ?_
        refine gf_RX3_34 (n := 88) C dX3_undo_85 hf rfl (fun v18 hf => ?_)
        obtain ⟨hr1, hr2⟩ := Prod.mk.inj (Option.some.inj hf)
        subst hr1; subst hr2
        subst hQ
        exact U_iret C dX3_undo_88 (Nat.le_refl 0) (Nat.le_refl 0)
      · replace hf := (if_neg c17).symm.trans hf
        refine U_aload_n (n := 71) 0 C dX3_undo_70 rfl rfl rfl ?_
        refine gf_RX3_10 (n := 74) C dX3_undo_71 hf rfl (fun v19 hf => ?_)
        refine U_aload_n (n := 75) 0 C dX3_undo_74 rfl rfl rfl ?_
        refine gf_RX3_19 (n := 78) C dX3_undo_75 hf rfl (fun v20 hf => ?_)
        refine gf_RX3_292 (n := 81) C dX3_undo_78 hf rfl (fun v21 hf => ?_)
        obtain ⟨h23, ev22, hf⟩ := bsome hf
        refine cv_RX3_64 (n := 84) C dX3_undo_81 (av := [.int v21]) rfl (rc_X0_arrange ev22) (M_X0_arrange ev22) (Nat.le_of_ble_eq_true rfl) (Nat.zero_le _) (Nat.zero_le _) (Nat.le_of_ble_eq_true rfl) rfl ?_
        refine U_aload_n (n := 85) 0 C dX3_undo_84 rfl rfl rfl ?_
        refine gf_RX3_34 (n := 88) C dX3_undo_85 hf rfl (fun v24 hf => ?_)
        obtain ⟨hr1, hr2⟩ := Prod.mk.inj (Option.some.inj hf)
        subst hr1; subst hr2
        subst hQ
        exact U_iret C dX3_undo_88 (Nat.le_refl 0) (Nat.le_refl 0)
    · replace hf := (if_neg c4).symm.trans hf
      obtain ⟨hr1, hr2⟩ := Prod.mk.inj (Option.some.inj hf)
      subst hr1; subst hr2
      subst hQ
      exact U_throwW 2 C xown_RX3 rfl xfit_2 xcl_2 xin_2 xsr_286 xat_2 xgood_2 dX3_undo_16 dX3_undo_19 dX3_undo_20 dX3_undo_23 dX3_undo_26 (Nat.le_of_ble_eq_true rfl) (Nat.le_refl _) (Nat.le_refl _) rfl rfl
def l_X3_digest_33 (p0 : Nat) (h : Hp) : Nat → Int64 → Int32 → Option (Int64 ⊕ (Nat ⊕ Int64))
  | 0, _, _ => none
  | fuel + 1, x1, x3 =>
    if (9 : Int32) < x3 then (
      some (.inl x1)
    ) else (
      bindT (f_X3_count p0 x3 h) (fun kv5 => some (.inr (.inl kv5))) fun v5 =>
      l_X3_digest_33 p0 h fuel (((31 : Int64) * x1) + (v5).toInt64) (x3 + 1)
    )
def l_X3_digest_74 (p0 : Nat) (p3 : Int32) (h : Hp) : Nat → Int64 → Int32 → Option (Int64 ⊕ (Nat ⊕ Int64))
  | 0, _, _ => none
  | fuel + 1, x1, x4 =>
    if (6 : Int32) < x4 then (
      some (.inl x1)
    ) else (
      bindT (f_X3_triple p0 p3 x4 h) (fun kv14 => some (.inr (.inl kv14))) fun v14 =>
      l_X3_digest_74 p0 p3 h fuel (((31 : Int64) * x1) + (v14).toInt64) (x4 + 1)
    )
def l_X3_digest_60 (p0 : Nat) (h : Hp) : Nat → Int64 → Int32 → Option (Int64 ⊕ (Nat ⊕ Int64))
  | 0, _, _ => none
  | fuel + 1, x1, x3 =>
    (fR 3 0 h p0).bind fun v10 =>
    (fI 0 1 h v10).bind fun v11 =>
    if v11 ≤ x3 then (
      some (.inl x1)
    ) else (
      bindQ1 (l_X3_digest_74 p0 x3 h FU x1 (3 : Int32)) fun v15 =>
      bindT (f_X3_reasons p0 x3 h) (fun kv19 => some (.inr (.inl kv19))) fun v19 =>
      l_X3_digest_60 p0 h fuel (((31 : Int64) * v15) + v19) (x3 + 1)
    )
def l_X3_digest_122 (p0 : Nat) (h : Hp) : Nat → Int64 → Int32 → Option (Int64 ⊕ (Nat ⊕ Int64))
  | 0, _, _ => none
  | fuel + 1, x1, x3 =>
    (fR 3 0 h p0).bind fun v24 =>
    (fI 0 2 h v24).bind fun v25 =>
    if v25 ≤ x3 then (
      some (.inl x1)
    ) else (
      bindT (f_X3_relation p0 x3 (5 : Int32) h) (fun kv27 => some (.inr (.inl kv27))) fun v27 =>
      bindT (f_X3_relation p0 x3 (6 : Int32) h) (fun kv28 => some (.inr (.inl kv28))) fun v28 =>
      l_X3_digest_122 p0 h fuel (((31 : Int64) * (((31 : Int64) * x1) + (v27).toInt64)) + (v28).toInt64) (x3 + 1)
    )
def l_X3_digest_170 (p0 : Nat) (h : Hp) : Nat → Int64 → Int32 → Option (Int64 ⊕ (Nat ⊕ Int64))
  | 0, _, _ => none
  | fuel + 1, x1, x3 =>
    (fR 3 0 h p0).bind fun v33 =>
    (fI 0 0 h v33).bind fun v34 =>
    if v34 ≤ x3 then (
      some (.inl x1)
    ) else (
      bindT (f_X3_isExtreme p0 x3 h) (fun kv36 => some (.inr (.inl kv36))) fun v36 =>
      (
        if v36 = 0 then (
          some ((0 : Int32))
        ) else (
          some ((1 : Int32))
        )
      ).bind fun v38 =>
      bindT (f_X3_coordinate p0 x3 (0 : Int32) h) (fun kv42 => some (.inr (.inl kv42))) fun v42 =>
      bindT (f_X3_coordinate p0 x3 (1 : Int32) h) (fun kv43 => some (.inr (.inl kv43))) fun v43 =>
      l_X3_digest_170 p0 h fuel (((31 : Int64) * (((31 : Int64) * (((31 : Int64) * x1) + (v38).toInt64)) + (v42).toInt64)) + (v43).toInt64) (x3 + 1)
    )
def f_X3_digest (o : Nat) (h : Hp) : Option (Nat ⊕ Int64) :=
  (rc 3 h o).bind fun _ =>
  (fI 3 4 h o).bind fun v1 =>
  (fR 3 2 h o).bind fun v2 =>
  (fI 1 1 h v2).bind fun v3 =>
  bindR1 (l_X3_digest_33 o h FU (((31 : Int64) * (((31 : Int64) * (18398 : Int64)) + (v1).toInt64)) + (v3).toInt64) (0 : Int32)) fun v6 =>
  bindR1 (l_X3_digest_60 o h FU v6 (0 : Int32)) fun v20 =>
  bindR1 (l_X3_digest_122 o h FU v20 (0 : Int32)) fun v29 =>
  bindR1 (l_X3_digest_170 o h FU v29 (0 : Int32)) fun v44 =>
  (f_X3_mismatches o h).bind fun v48 =>
  some (.inr (((31 : Int64) * v44) + (v48).toInt64))
set_option maxHeartbeats 2000000 in
set_option maxRecDepth 20000 in
theorem L_X3_digest_33 {g : GT} {Γ : CT} {Q : State → Prop} {mc ms : Nat} (C : Cx g Γ cX3_digest RX3 "digest" 5 (some .long) 11 mc ms) {p0 : Nat} {h : Hp} : ∀ {fuel : Nat} {x1 : Int64} {x3 : Int32} {out : (Int64 ⊕ (Nat ⊕ Int64))}, l_X3_digest_33 p0 h fuel x1 x3 = some out → (∀ y1, out = .inl y1 → U g Γ 5 Q 0 0 58 [(0, .ref p0), (1, .long y1)] [] h) → (∀ r, out = .inr r → (Qe g Γ (rJ r) h 0 0 = Q ∧ mc = 0 + er (rJ r) ∧ ms = 0 + 6 * er (rJ r))) → U g Γ 5 Q 0 0 33 [(0, .ref p0), (1, .long x1), (3, .int x3)] [] h := by
  intro fuel
  induction fuel with
  | zero =>
    intro x1 x3 out hf J0 R0
    simp only [l_X3_digest_33, reduceCtorEq] at hf
  | succ fuel ih =>
    intro x1 x3 out hf J0 R0
    rw [l_X3_digest_33] at hf
    refine U_iload_n (n := 34) 2 C dX3_digest_33 rfl rfl ?_
    refine U_bipush (n := 36) (9 : Int32) C dX3_digest_34 kbipush_9 rfl ?_
    refine U_icgt (tgt := 58) (n := 39) C dX3_digest_36 (by decide) rfl (fun c4 => ?_) (fun c4 => ?_)
    · replace hf := (if_pos c4).symm.trans hf
      have hr := Option.some.inj hf
      subst hr
      exact U_lv [0, 1] rfl (J0 _ rfl)
    · replace hf := (if_neg c4).symm.trans hf
      refine U_ldc2 (n := 42) (31 : Int64) C dX3_digest_39 ct_RX3_295 rfl ?_
      refine U_lload_n (n := 43) 1 C dX3_digest_42 rfl rfl ?_
      refine U_lmul (n := 44) C dX3_digest_43 rfl ?_
      refine U_aload_n (n := 45) 0 C dX3_digest_44 rfl rfl rfl ?_
      refine U_iload_n (n := 46) 2 C dX3_digest_45 rfl rfl ?_
      rcases bsomeT hf with ⟨kv5, ev5, hf⟩ | ⟨v5, ev5, hf⟩
      · skip
        have hr := Option.some.inj hf
        subst hr
        have hQ := R0 _ rfl
        obtain ⟨hQ, hq1, hq2⟩ := hQ
        subst hq1; subst hq2
        subst hQ
        exact xv_RX3_297 kv5 C dX3_digest_46 (av := [.int x3]) rfl (rc_X3_count ev5) (M_X3_count ev5) (Nat.le_of_ble_eq_true rfl) (Nat.le_of_ble_eq_true rfl)
      refine cv_RX3_297 (n := 49) C dX3_digest_46 (av := [.int x3]) rfl (rc_X3_count ev5) (M_X3_count ev5) (Nat.le_of_ble_eq_true rfl) (Nat.zero_le _) (Nat.zero_le _) (Nat.le_of_ble_eq_true rfl) rfl ?_
      refine U_i2l (n := 50) C dX3_digest_49 rfl ?_
      refine U_ladd (n := 51) C dX3_digest_50 rfl ?_
      refine U_lstore_n (n := 52) (lv2 := [(1, .long (((31 : Int64) * x1) + (v5).toInt64)), (0, .ref p0), (3, .int x3)]) C dX3_digest_51 (by decide) rfl rfl ?_
      refine U_iinc (n := 55) (v := (x3 + 1)) (lv2 := [(3, .int (x3 + 1)), (1, .long (((31 : Int64) * x1) + (v5).toInt64)), (0, .ref p0)]) 2 C dX3_digest_52 rfl rfl (by decide) rfl rfl ?_
      refine U_goto (n := 0) (tgt := 33) C dX3_digest_55 (by decide) ?_
      exact U_lv [2, 1, 0] rfl (ih hf J0 R0)
set_option maxHeartbeats 2000000 in
set_option maxRecDepth 20000 in
theorem L_X3_digest_74 {g : GT} {Γ : CT} {Q : State → Prop} {mc ms : Nat} (C : Cx g Γ cX3_digest RX3 "digest" 5 (some .long) 11 mc ms) {p0 : Nat} {p3 : Int32} {h : Hp} : ∀ {fuel : Nat} {x1 : Int64} {x4 : Int32} {out : (Int64 ⊕ (Nat ⊕ Int64))}, l_X3_digest_74 p0 p3 h fuel x1 x4 = some out → (∀ y1, out = .inl y1 → U g Γ 5 Q 0 0 102 [(0, .ref p0), (1, .long y1), (3, .int p3)] [] h) → (∀ r, out = .inr r → (Qe g Γ (rJ r) h 0 0 = Q ∧ mc = 0 + er (rJ r) ∧ ms = 0 + 6 * er (rJ r))) → U g Γ 5 Q 0 0 74 [(0, .ref p0), (1, .long x1), (3, .int p3), (4, .int x4)] [] h := by
  intro fuel
  induction fuel with
  | zero =>
    intro x1 x4 out hf J0 R0
    simp only [l_X3_digest_74, reduceCtorEq] at hf
  | succ fuel ih =>
    intro x1 x4 out hf J0 R0
    rw [l_X3_digest_74] at hf
    refine U_iload (n := 76) 3 C dX3_digest_74 rfl rfl ?_
    refine U_bipush (n := 78) (6 : Int32) C dX3_digest_76 kbipush_6 rfl ?_
    refine U_icgt (tgt := 102) (n := 81) C dX3_digest_78 (by decide) rfl (fun c13 => ?_) (fun c13 => ?_)
    · replace hf := (if_pos c13).symm.trans hf
      have hr := Option.some.inj hf
      subst hr
      exact U_lv [0, 1, 2] rfl (J0 _ rfl)
    · replace hf := (if_neg c13).symm.trans hf
      refine U_ldc2 (n := 84) (31 : Int64) C dX3_digest_81 ct_RX3_295 rfl ?_
      refine U_lload_n (n := 85) 1 C dX3_digest_84 rfl rfl ?_
      refine U_lmul (n := 86) C dX3_digest_85 rfl ?_
      refine U_aload_n (n := 87) 0 C dX3_digest_86 rfl rfl rfl ?_
      refine U_iload_n (n := 88) 2 C dX3_digest_87 rfl rfl ?_
      refine U_iload (n := 90) 3 C dX3_digest_88 rfl rfl ?_
      rcases bsomeT hf with ⟨kv14, ev14, hf⟩ | ⟨v14, ev14, hf⟩
      · skip
        have hr := Option.some.inj hf
        subst hr
        have hQ := R0 _ rfl
        obtain ⟨hQ, hq1, hq2⟩ := hQ
        subst hq1; subst hq2
        subst hQ
        exact xv_RX3_300 kv14 C dX3_digest_90 (av := [.int p3, .int x4]) rfl (rc_X3_triple ev14) (M_X3_triple ev14) (Nat.le_of_ble_eq_true rfl) (Nat.le_of_ble_eq_true rfl)
      refine cv_RX3_300 (n := 93) C dX3_digest_90 (av := [.int p3, .int x4]) rfl (rc_X3_triple ev14) (M_X3_triple ev14) (Nat.le_of_ble_eq_true rfl) (Nat.zero_le _) (Nat.zero_le _) (Nat.le_of_ble_eq_true rfl) rfl ?_
      refine U_i2l (n := 94) C dX3_digest_93 rfl ?_
      refine U_ladd (n := 95) C dX3_digest_94 rfl ?_
      refine U_lstore_n (n := 96) (lv2 := [(1, .long (((31 : Int64) * x1) + (v14).toInt64)), (0, .ref p0), (3, .int p3), (4, .int x4)]) C dX3_digest_95 (by decide) rfl rfl ?_
      refine U_iinc (n := 99) (v := (x4 + 1)) (lv2 := [(4, .int (x4 + 1)), (1, .long (((31 : Int64) * x1) + (v14).toInt64)), (0, .ref p0), (3, .int p3)]) 3 C dX3_digest_96 rfl rfl (by decide) rfl rfl ?_
      refine U_goto (n := 0) (tgt := 74) C dX3_digest_99 (by decide) ?_
      exact U_lv [2, 1, 3, 0] rfl (ih hf J0 R0)
set_option maxHeartbeats 2000000 in
set_option maxRecDepth 20000 in
theorem L_X3_digest_60 {g : GT} {Γ : CT} {Q : State → Prop} {mc ms : Nat} (C : Cx g Γ cX3_digest RX3 "digest" 5 (some .long) 11 mc ms) {p0 : Nat} {h : Hp} : ∀ {fuel : Nat} {x1 : Int64} {x3 : Int32} {out : (Int64 ⊕ (Nat ⊕ Int64))}, l_X3_digest_60 p0 h fuel x1 x3 = some out → (∀ y1, out = .inl y1 → U g Γ 5 Q 0 0 120 [(0, .ref p0), (1, .long y1)] [] h) → (∀ r, out = .inr r → (Qe g Γ (rJ r) h 0 0 = Q ∧ mc = 0 + er (rJ r) ∧ ms = 0 + 6 * er (rJ r))) → U g Γ 5 Q 0 0 60 [(0, .ref p0), (1, .long x1), (3, .int x3)] [] h := by
  intro fuel
  induction fuel with
  | zero =>
    intro x1 x3 out hf J0 R0
    simp only [l_X3_digest_60, reduceCtorEq] at hf
  | succ fuel ih =>
    intro x1 x3 out hf J0 R0
    rw [l_X3_digest_60] at hf
    refine U_iload_n (n := 61) 2 C dX3_digest_60 rfl rfl ?_
    refine U_aload_n (n := 62) 0 C dX3_digest_61 rfl rfl rfl ?_
    refine gf_RX3_10 (n := 65) C dX3_digest_62 hf rfl (fun v10 hf => ?_)
    refine gf_RX3_77 (n := 68) C dX3_digest_65 hf rfl (fun v11 hf => ?_)
    refine U_icge (tgt := 120) (n := 71) C dX3_digest_68 (by decide) rfl (fun c12 => ?_) (fun c12 => ?_)
    · replace hf := (if_pos c12).symm.trans hf
      have hr := Option.some.inj hf
      subst hr
      exact U_lv [0, 1] rfl (J0 _ rfl)
    · replace hf := (if_neg c12).symm.trans hf
      refine U_iconst (n := 72) (3 : Int32) C dX3_digest_71 kiconst_3 rfl ?_
      refine U_istore (n := 74) (lv2 := [(4, .int (3 : Int32)), (0, .ref p0), (1, .long x1), (3, .int x3)]) C dX3_digest_72 (by decide) rfl rfl ?_
      refine U_joinQ1 (fun v15 => U g Γ 5 Q 0 0 102 [(0, .ref p0), (1, .long v15), (3, .int x3)] [] h) hf (fun v15 hf => ?_) (fun o18 hf J16 R17 => U_lv [1, 2, 3, 0] rfl (L_X3_digest_74 C hf J16 ?_))
      rotate_left
      · intro r hr
        exact R0 _ (R17 r hr)
      refine U_ldc2 (n := 105) (31 : Int64) C dX3_digest_102 ct_RX3_295 rfl ?_
      refine U_lload_n (n := 106) 1 C dX3_digest_105 rfl rfl ?_
      refine U_lmul (n := 107) C dX3_digest_106 rfl ?_
      refine U_aload_n (n := 108) 0 C dX3_digest_107 rfl rfl rfl ?_
      refine U_iload_n (n := 109) 2 C dX3_digest_108 rfl rfl ?_
      rcases bsomeT hf with ⟨kv19, ev19, hf⟩ | ⟨v19, ev19, hf⟩
      · skip
        have hr := Option.some.inj hf
        subst hr
        have hQ := R0 _ rfl
        obtain ⟨hQ, hq1, hq2⟩ := hQ
        subst hq1; subst hq2
        subst hQ
        exact xv_RX3_303 kv19 C dX3_digest_109 (av := [.int x3]) rfl (rc_X3_reasons ev19) (M_X3_reasons ev19) (Nat.le_of_ble_eq_true rfl) (Nat.le_of_ble_eq_true rfl)
      refine cv_RX3_303 (n := 112) C dX3_digest_109 (av := [.int x3]) rfl (rc_X3_reasons ev19) (M_X3_reasons ev19) (Nat.le_of_ble_eq_true rfl) (Nat.zero_le _) (Nat.zero_le _) (Nat.le_of_ble_eq_true rfl) rfl ?_
      refine U_ladd (n := 113) C dX3_digest_112 rfl ?_
      refine U_lstore_n (n := 114) (lv2 := [(1, .long (((31 : Int64) * v15) + v19)), (0, .ref p0), (3, .int x3)]) C dX3_digest_113 (by decide) rfl rfl ?_
      refine U_iinc (n := 117) (v := (x3 + 1)) (lv2 := [(3, .int (x3 + 1)), (1, .long (((31 : Int64) * v15) + v19)), (0, .ref p0)]) 2 C dX3_digest_114 rfl rfl (by decide) rfl rfl ?_
      refine U_goto (n := 0) (tgt := 60) C dX3_digest_117 (by decide) ?_
      exact U_lv [2, 1, 0] rfl (ih hf J0 R0)
set_option maxHeartbeats 2000000 in
set_option maxRecDepth 20000 in
theorem L_X3_digest_122 {g : GT} {Γ : CT} {Q : State → Prop} {mc ms : Nat} (C : Cx g Γ cX3_digest RX3 "digest" 5 (some .long) 11 mc ms) {p0 : Nat} {h : Hp} : ∀ {fuel : Nat} {x1 : Int64} {x3 : Int32} {out : (Int64 ⊕ (Nat ⊕ Int64))}, l_X3_digest_122 p0 h fuel x1 x3 = some out → (∀ y1, out = .inl y1 → U g Γ 5 Q 0 0 168 [(0, .ref p0), (1, .long y1)] [] h) → (∀ r, out = .inr r → (Qe g Γ (rJ r) h 0 0 = Q ∧ mc = 0 + er (rJ r) ∧ ms = 0 + 6 * er (rJ r))) → U g Γ 5 Q 0 0 122 [(0, .ref p0), (1, .long x1), (3, .int x3)] [] h := by
  intro fuel
  induction fuel with
  | zero =>
    intro x1 x3 out hf J0 R0
    simp only [l_X3_digest_122, reduceCtorEq] at hf
  | succ fuel ih =>
    intro x1 x3 out hf J0 R0
    rw [l_X3_digest_122] at hf
    refine U_iload_n (n := 123) 2 C dX3_digest_122 rfl rfl ?_
    refine U_aload_n (n := 124) 0 C dX3_digest_123 rfl rfl rfl ?_
    refine gf_RX3_10 (n := 127) C dX3_digest_124 hf rfl (fun v24 hf => ?_)
    refine gf_RX3_166 (n := 130) C dX3_digest_127 hf rfl (fun v25 hf => ?_)
    refine U_icge (tgt := 168) (n := 133) C dX3_digest_130 (by decide) rfl (fun c26 => ?_) (fun c26 => ?_)
    · replace hf := (if_pos c26).symm.trans hf
      have hr := Option.some.inj hf
      subst hr
      exact U_lv [0, 1] rfl (J0 _ rfl)
    · replace hf := (if_neg c26).symm.trans hf
      refine U_ldc2 (n := 136) (31 : Int64) C dX3_digest_133 ct_RX3_295 rfl ?_
      refine U_lload_n (n := 137) 1 C dX3_digest_136 rfl rfl ?_
      refine U_lmul (n := 138) C dX3_digest_137 rfl ?_
      refine U_aload_n (n := 139) 0 C dX3_digest_138 rfl rfl rfl ?_
      refine U_iload_n (n := 140) 2 C dX3_digest_139 rfl rfl ?_
      refine U_iconst (n := 141) (5 : Int32) C dX3_digest_140 kiconst_5 rfl ?_
      rcases bsomeT hf with ⟨kv27, ev27, hf⟩ | ⟨v27, ev27, hf⟩
      · skip
        have hr := Option.some.inj hf
        subst hr
        have hQ := R0 _ rfl
        obtain ⟨hQ, hq1, hq2⟩ := hQ
        subst hq1; subst hq2
        subst hQ
        exact xv_RX3_306 kv27 C dX3_digest_141 (av := [.int x3, .int (5 : Int32)]) rfl (rc_X3_relation ev27) (M_X3_relation ev27) (Nat.le_of_ble_eq_true rfl) (Nat.le_of_ble_eq_true rfl)
      refine cv_RX3_306 (n := 144) C dX3_digest_141 (av := [.int x3, .int (5 : Int32)]) rfl (rc_X3_relation ev27) (M_X3_relation ev27) (Nat.le_of_ble_eq_true rfl) (Nat.zero_le _) (Nat.zero_le _) (Nat.le_of_ble_eq_true rfl) rfl ?_
      refine U_i2l (n := 145) C dX3_digest_144 rfl ?_
      refine U_ladd (n := 146) C dX3_digest_145 rfl ?_
      refine U_lstore_n (n := 147) (lv2 := [(1, .long (((31 : Int64) * x1) + (v27).toInt64)), (0, .ref p0), (3, .int x3)]) C dX3_digest_146 (by decide) rfl rfl ?_
      refine U_ldc2 (n := 150) (31 : Int64) C dX3_digest_147 ct_RX3_295 rfl ?_
      refine U_lload_n (n := 151) 0 C dX3_digest_150 rfl rfl ?_
      refine U_lmul (n := 152) C dX3_digest_151 rfl ?_
      refine U_aload_n (n := 153) 1 C dX3_digest_152 rfl rfl rfl ?_
      refine U_iload_n (n := 154) 2 C dX3_digest_153 rfl rfl ?_
      refine U_bipush (n := 156) (6 : Int32) C dX3_digest_154 kbipush_6 rfl ?_
      rcases bsomeT hf with ⟨kv28, ev28, hf⟩ | ⟨v28, ev28, hf⟩
      · skip
        have hr := Option.some.inj hf
        subst hr
        have hQ := R0 _ rfl
        obtain ⟨hQ, hq1, hq2⟩ := hQ
        subst hq1; subst hq2
        subst hQ
        exact xv_RX3_306 kv28 C dX3_digest_156 (av := [.int x3, .int (6 : Int32)]) rfl (rc_X3_relation ev28) (M_X3_relation ev28) (Nat.le_of_ble_eq_true rfl) (Nat.le_of_ble_eq_true rfl)
      refine cv_RX3_306 (n := 159) C dX3_digest_156 (av := [.int x3, .int (6 : Int32)]) rfl (rc_X3_relation ev28) (M_X3_relation ev28) (Nat.le_of_ble_eq_true rfl) (Nat.zero_le _) (Nat.zero_le _) (Nat.le_of_ble_eq_true rfl) rfl ?_
      refine U_i2l (n := 160) C dX3_digest_159 rfl ?_
      refine U_ladd (n := 161) C dX3_digest_160 rfl ?_
      refine U_lstore_n (n := 162) (lv2 := [(1, .long (((31 : Int64) * (((31 : Int64) * x1) + (v27).toInt64)) + (v28).toInt64)), (0, .ref p0), (3, .int x3)]) C dX3_digest_161 (by decide) rfl rfl ?_
      refine U_iinc (n := 165) (v := (x3 + 1)) (lv2 := [(3, .int (x3 + 1)), (1, .long (((31 : Int64) * (((31 : Int64) * x1) + (v27).toInt64)) + (v28).toInt64)), (0, .ref p0)]) 2 C dX3_digest_162 rfl rfl (by decide) rfl rfl ?_
      refine U_goto (n := 0) (tgt := 122) C dX3_digest_165 (by decide) ?_
      exact U_lv [2, 1, 0] rfl (ih hf J0 R0)
set_option maxHeartbeats 2000000 in
set_option maxRecDepth 20000 in
theorem L_X3_digest_170 {g : GT} {Γ : CT} {Q : State → Prop} {mc ms : Nat} (C : Cx g Γ cX3_digest RX3 "digest" 5 (some .long) 11 mc ms) {p0 : Nat} {h : Hp} : ∀ {fuel : Nat} {x1 : Int64} {x3 : Int32} {out : (Int64 ⊕ (Nat ⊕ Int64))}, l_X3_digest_170 p0 h fuel x1 x3 = some out → (∀ y1, out = .inl y1 → U g Γ 5 Q 0 0 236 [(0, .ref p0), (1, .long y1)] [] h) → (∀ r, out = .inr r → (Qe g Γ (rJ r) h 0 0 = Q ∧ mc = 0 + er (rJ r) ∧ ms = 0 + 6 * er (rJ r))) → U g Γ 5 Q 0 0 170 [(0, .ref p0), (1, .long x1), (3, .int x3)] [] h := by
  intro fuel
  induction fuel with
  | zero =>
    intro x1 x3 out hf J0 R0
    simp only [l_X3_digest_170, reduceCtorEq] at hf
  | succ fuel ih =>
    intro x1 x3 out hf J0 R0
    rw [l_X3_digest_170] at hf
    refine U_iload_n (n := 171) 2 C dX3_digest_170 rfl rfl ?_
    refine U_aload_n (n := 172) 0 C dX3_digest_171 rfl rfl rfl ?_
    refine gf_RX3_10 (n := 175) C dX3_digest_172 hf rfl (fun v33 hf => ?_)
    refine gf_RX3_163 (n := 178) C dX3_digest_175 hf rfl (fun v34 hf => ?_)
    refine U_icge (tgt := 236) (n := 181) C dX3_digest_178 (by decide) rfl (fun c35 => ?_) (fun c35 => ?_)
    · replace hf := (if_pos c35).symm.trans hf
      have hr := Option.some.inj hf
      subst hr
      exact U_lv [0, 1] rfl (J0 _ rfl)
    · replace hf := (if_neg c35).symm.trans hf
      refine U_ldc2 (n := 184) (31 : Int64) C dX3_digest_181 ct_RX3_295 rfl ?_
      refine U_lload_n (n := 185) 1 C dX3_digest_184 rfl rfl ?_
      refine U_lmul (n := 186) C dX3_digest_185 rfl ?_
      refine U_aload_n (n := 187) 0 C dX3_digest_186 rfl rfl rfl ?_
      refine U_iload_n (n := 188) 2 C dX3_digest_187 rfl rfl ?_
      rcases bsomeT hf with ⟨kv36, ev36, hf⟩ | ⟨v36, ev36, hf⟩
      · skip
        have hr := Option.some.inj hf
        subst hr
        have hQ := R0 _ rfl
        obtain ⟨hQ, hq1, hq2⟩ := hQ
        subst hq1; subst hq2
        subst hQ
        exact xv_RX3_309 kv36 C dX3_digest_188 (av := [.int x3]) rfl (rc_X3_isExtreme ev36) (M_X3_isExtreme ev36) (Nat.le_of_ble_eq_true rfl) (Nat.le_of_ble_eq_true rfl)
      refine cv_RX3_309 (n := 191) C dX3_digest_188 (av := [.int x3]) rfl (rc_X3_isExtreme ev36) (M_X3_isExtreme ev36) (Nat.le_of_ble_eq_true rfl) (Nat.zero_le _) (Nat.zero_le _) (Nat.le_of_ble_eq_true rfl) rfl ?_
      refine U_join1 (fun v38 => U g Γ 5 Q 0 0 199 [(0, .ref p0), (3, .int x3)] [.int v38, .long ((31 : Int64) * x1)] h) hf (fun v38 hf => ?_) (fun v38 hf J40 => ?_)
      · skip
        refine U_i2l (n := 200) C dX3_digest_199 rfl ?_
        refine U_ladd (n := 201) C dX3_digest_200 rfl ?_
        refine U_lstore_n (n := 202) (lv2 := [(1, .long (((31 : Int64) * x1) + (v38).toInt64)), (0, .ref p0), (3, .int x3)]) C dX3_digest_201 (by decide) rfl rfl ?_
        refine U_ldc2 (n := 205) (31 : Int64) C dX3_digest_202 ct_RX3_295 rfl ?_
        refine U_lload_n (n := 206) 0 C dX3_digest_205 rfl rfl ?_
        refine U_lmul (n := 207) C dX3_digest_206 rfl ?_
        refine U_aload_n (n := 208) 1 C dX3_digest_207 rfl rfl rfl ?_
        refine U_iload_n (n := 209) 2 C dX3_digest_208 rfl rfl ?_
        refine U_iconst (n := 210) (0 : Int32) C dX3_digest_209 kiconst_0 rfl ?_
        rcases bsomeT hf with ⟨kv42, ev42, hf⟩ | ⟨v42, ev42, hf⟩
        · skip
          have hr := Option.some.inj hf
          subst hr
          have hQ := R0 _ rfl
          obtain ⟨hQ, hq1, hq2⟩ := hQ
          subst hq1; subst hq2
          subst hQ
          exact xv_RX3_312 kv42 C dX3_digest_210 (av := [.int x3, .int (0 : Int32)]) rfl (rc_X3_coordinate ev42) (M_X3_coordinate ev42) (Nat.le_of_ble_eq_true rfl) (Nat.le_of_ble_eq_true rfl)
        refine cv_RX3_312 (n := 213) C dX3_digest_210 (av := [.int x3, .int (0 : Int32)]) rfl (rc_X3_coordinate ev42) (M_X3_coordinate ev42) (Nat.le_of_ble_eq_true rfl) (Nat.zero_le _) (Nat.zero_le _) (Nat.le_of_ble_eq_true rfl) rfl ?_
        refine U_i2l (n := 214) C dX3_digest_213 rfl ?_
        refine U_ladd (n := 215) C dX3_digest_214 rfl ?_
        refine U_lstore_n (n := 216) (lv2 := [(1, .long (((31 : Int64) * (((31 : Int64) * x1) + (v38).toInt64)) + (v42).toInt64)), (0, .ref p0), (3, .int x3)]) C dX3_digest_215 (by decide) rfl rfl ?_
        refine U_ldc2 (n := 219) (31 : Int64) C dX3_digest_216 ct_RX3_295 rfl ?_
        refine U_lload_n (n := 220) 0 C dX3_digest_219 rfl rfl ?_
        refine U_lmul (n := 221) C dX3_digest_220 rfl ?_
        refine U_aload_n (n := 222) 1 C dX3_digest_221 rfl rfl rfl ?_
        refine U_iload_n (n := 223) 2 C dX3_digest_222 rfl rfl ?_
        refine U_iconst (n := 224) (1 : Int32) C dX3_digest_223 kiconst_1 rfl ?_
        rcases bsomeT hf with ⟨kv43, ev43, hf⟩ | ⟨v43, ev43, hf⟩
        · skip
          have hr := Option.some.inj hf
          subst hr
          have hQ := R0 _ rfl
          obtain ⟨hQ, hq1, hq2⟩ := hQ
          subst hq1; subst hq2
          subst hQ
          exact xv_RX3_312 kv43 C dX3_digest_224 (av := [.int x3, .int (1 : Int32)]) rfl (rc_X3_coordinate ev43) (M_X3_coordinate ev43) (Nat.le_of_ble_eq_true rfl) (Nat.le_of_ble_eq_true rfl)
        refine cv_RX3_312 (n := 227) C dX3_digest_224 (av := [.int x3, .int (1 : Int32)]) rfl (rc_X3_coordinate ev43) (M_X3_coordinate ev43) (Nat.le_of_ble_eq_true rfl) (Nat.zero_le _) (Nat.zero_le _) (Nat.le_of_ble_eq_true rfl) rfl ?_
        refine U_i2l (n := 228) C dX3_digest_227 rfl ?_
        refine U_ladd (n := 229) C dX3_digest_228 rfl ?_
        refine U_lstore_n (n := 230) (lv2 := [(1, .long (((31 : Int64) * (((31 : Int64) * (((31 : Int64) * x1) + (v38).toInt64)) + (v42).toInt64)) + (v43).toInt64)), (0, .ref p0), (3, .int x3)]) C dX3_digest_229 (by decide) rfl rfl ?_
        refine U_iinc (n := 233) (v := (x3 + 1)) (lv2 := [(3, .int (x3 + 1)), (1, .long (((31 : Int64) * (((31 : Int64) * (((31 : Int64) * x1) + (v38).toInt64)) + (v42).toInt64)) + (v43).toInt64)), (0, .ref p0)]) 2 C dX3_digest_230 rfl rfl (by decide) rfl rfl ?_
        refine U_goto (n := 0) (tgt := 170) C dX3_digest_233 (by decide) ?_
        exact U_lv [2, 1, 0] rfl (ih hf J0 R0)
      · skip
        refine U_ifeq (tgt := 198) (n := 194) C dX3_digest_191 (by decide) rfl (fun c37 => ?_) (fun c37 => ?_)
        · replace hf := (if_pos c37).symm.trans hf
          refine U_iconst (n := 199) (0 : Int32) C dX3_digest_198 kiconst_0 rfl ?_
          have hr := Option.some.inj hf
          subst hr
          exact U_lv [0, 2] rfl J40
        · replace hf := (if_neg c37).symm.trans hf
          refine U_iconst (n := 195) (1 : Int32) C dX3_digest_194 kiconst_1 rfl ?_
          refine U_goto (n := 0) (tgt := 199) C dX3_digest_195 (by decide) ?_
          have hr := Option.some.inj hf
          subst hr
          exact U_lv [0, 2] rfl J40
theorem rc_X3_digest {o : Nat} {h : Hp} {z} (hf : f_X3_digest o h = some z) : rc 3 h o = some () := by
  unfold f_X3_digest at hf
  exact (bsome hf).choose_spec.1
set_option maxHeartbeats 2000000 in
set_option maxRecDepth 20000 in
theorem M_X3_digest {g : GT} {o : Nat} {h : Hp} {r : (Nat ⊕ Int64)} (hf : f_X3_digest o h = some r) : CM g yX3_digest cX3_digest 5 (some .long) 11 0 0 [.ref o] h (rJ r) h := by
  refine CM_of rfl (fun _ => Nat.le_of_ble_eq_true rfl) (fun Γ C hn0 => ?_)
  have C : Cx g Γ cX3_digest RX3 "digest" 5 (some .long) 11 (0 + er (rJ r)) (0 + 6 * er (rJ r)) := C
  generalize hQ : Qe g Γ (rJ r) h 0 0 = Q
  show U g Γ 5 Q 0 0 0 [(0, .ref o)] [] h
  unfold f_X3_digest at hf
  replace hf := (bsome hf).choose_spec.2
  refine U_ldc2 (n := 3) (18398 : Int64) C dX3_digest_0 ct_RX3_293 rfl ?_
  refine U_lstore_n (n := 4) (lv2 := [(1, .long (18398 : Int64)), (0, .ref o)]) C dX3_digest_3 (by decide) rfl rfl ?_
  refine U_ldc2 (n := 7) (31 : Int64) C dX3_digest_4 ct_RX3_295 rfl ?_
  refine U_lload_n (n := 8) 0 C dX3_digest_7 rfl rfl ?_
  refine U_lmul (n := 9) C dX3_digest_8 rfl ?_
  refine U_aload_n (n := 10) 1 C dX3_digest_9 rfl rfl rfl ?_
  refine gf_RX3_34 (n := 13) C dX3_digest_10 hf rfl (fun v1 hf => ?_)
  refine U_i2l (n := 14) C dX3_digest_13 rfl ?_
  refine U_ladd (n := 15) C dX3_digest_14 rfl ?_
  refine U_lstore_n (n := 16) (lv2 := [(1, .long (((31 : Int64) * (18398 : Int64)) + (v1).toInt64)), (0, .ref o)]) C dX3_digest_15 (by decide) rfl rfl ?_
  refine U_ldc2 (n := 19) (31 : Int64) C dX3_digest_16 ct_RX3_295 rfl ?_
  refine U_lload_n (n := 20) 0 C dX3_digest_19 rfl rfl ?_
  refine U_lmul (n := 21) C dX3_digest_20 rfl ?_
  refine U_aload_n (n := 22) 1 C dX3_digest_21 rfl rfl rfl ?_
  refine gf_RX3_26 (n := 25) C dX3_digest_22 hf rfl (fun v2 hf => ?_)
  refine gf_RX3_250 (n := 28) C dX3_digest_25 hf rfl (fun v3 hf => ?_)
  refine U_i2l (n := 29) C dX3_digest_28 rfl ?_
  refine U_ladd (n := 30) C dX3_digest_29 rfl ?_
  refine U_lstore_n (n := 31) (lv2 := [(1, .long (((31 : Int64) * (((31 : Int64) * (18398 : Int64)) + (v1).toInt64)) + (v3).toInt64)), (0, .ref o)]) C dX3_digest_30 (by decide) rfl rfl ?_
  refine U_iconst (n := 32) (0 : Int32) C dX3_digest_31 kiconst_0 rfl ?_
  refine U_istore_n (n := 33) (lv2 := [(3, .int (0 : Int32)), (1, .long (((31 : Int64) * (((31 : Int64) * (18398 : Int64)) + (v1).toInt64)) + (v3).toInt64)), (0, .ref o)]) C dX3_digest_32 (by decide) rfl rfl ?_
  refine U_joinR1 (fun v6 => U g Γ 5 Q 0 0 58 [(0, .ref o), (1, .long v6)] [] h) hf (fun v6 hf => ?_) (fun o9 hf J7 R8 => U_lv [2, 1, 0] rfl (L_X3_digest_33 C hf J7 ?_))
  rotate_left
  · intro r hr
    have hr := (R8 r hr)
    subst hr
    exact ⟨hQ, rfl, rfl⟩
  refine U_iconst (n := 59) (0 : Int32) C dX3_digest_58 kiconst_0 rfl ?_
  refine U_istore_n (n := 60) (lv2 := [(3, .int (0 : Int32)), (0, .ref o), (1, .long v6)]) C dX3_digest_59 (by decide) rfl rfl ?_
  refine U_joinR1 (fun v20 => U g Γ 5 Q 0 0 120 [(0, .ref o), (1, .long v20)] [] h) hf (fun v20 hf => ?_) (fun o23 hf J21 R22 => U_lv [1, 2, 0] rfl (L_X3_digest_60 C hf J21 ?_))
  rotate_left
  · intro r hr
    have hr := (R22 r hr)
    subst hr
    exact ⟨hQ, rfl, rfl⟩
  refine U_iconst (n := 121) (0 : Int32) C dX3_digest_120 kiconst_0 rfl ?_
  refine U_istore_n (n := 122) (lv2 := [(3, .int (0 : Int32)), (0, .ref o), (1, .long v20)]) C dX3_digest_121 (by decide) rfl rfl ?_
  refine U_joinR1 (fun v29 => U g Γ 5 Q 0 0 168 [(0, .ref o), (1, .long v29)] [] h) hf (fun v29 hf => ?_) (fun o32 hf J30 R31 => U_lv [1, 2, 0] rfl (L_X3_digest_122 C hf J30 ?_))
  rotate_left
  · intro r hr
    have hr := (R31 r hr)
    subst hr
    exact ⟨hQ, rfl, rfl⟩
  refine U_iconst (n := 169) (0 : Int32) C dX3_digest_168 kiconst_0 rfl ?_
  refine U_istore_n (n := 170) (lv2 := [(3, .int (0 : Int32)), (0, .ref o), (1, .long v29)]) C dX3_digest_169 (by decide) rfl rfl ?_
  refine U_joinR1 (fun v44 => U g Γ 5 Q 0 0 236 [(0, .ref o), (1, .long v44)] [] h) hf (fun v44 hf => ?_) (fun o47 hf J45 R46 => U_lv [1, 2, 0] rfl (L_X3_digest_170 C hf J45 ?_))
  rotate_left
  · intro r hr
    have hr := (R46 r hr)
    subst hr
    exact ⟨hQ, rfl, rfl⟩
  refine U_ldc2 (n := 239) (31 : Int64) C dX3_digest_236 ct_RX3_295 rfl ?_
  refine U_lload_n (n := 240) 1 C dX3_digest_239 rfl rfl ?_
  refine U_lmul (n := 241) C dX3_digest_240 rfl ?_
  refine U_aload_n (n := 242) 0 C dX3_digest_241 rfl rfl rfl ?_
  obtain ⟨v48, ev48, hf⟩ := bsome hf
  refine cv_RX3_315 (n := 245) C dX3_digest_242 (av := []) rfl (rc_X3_mismatches ev48) (M_X3_mismatches ev48) (Nat.le_of_ble_eq_true rfl) (Nat.zero_le _) (Nat.zero_le _) (Nat.le_of_ble_eq_true rfl) rfl ?_
  refine U_i2l (n := 246) C dX3_digest_245 rfl ?_
  refine U_ladd (n := 247) C dX3_digest_246 rfl ?_
  have hr := (Option.some.inj hf)
  subst hr
  subst hQ
  exact U_lret C dX3_digest_247 (Nat.le_refl 0) (Nat.le_refl 0)
