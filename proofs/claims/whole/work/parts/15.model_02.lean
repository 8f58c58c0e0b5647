def l_X4_exchange_45 (p0 : Nat) (p1 : Int32) (p2 : Int32) : Nat → Int32 → Hp → Option Hp
  | 0, _, _ => none
  | fuel + 1, x4, h =>
    (fI 4 9 h p0).bind fun v16 =>
    if v16 ≤ x4 then (
      some h
    ) else (
      (fR 4 15 h p0).bind fun v18 =>
      (fR 4 7 h p0).bind fun v19 =>
      (aI h v19 ((3 : Int32) * x4)).bind fun v20 =>
      (f_X4_exchanged v20 p1 p2).bind fun v21 =>
      (fR 4 7 h p0).bind fun v22 =>
      (aI h v22 (((3 : Int32) * x4) + (1 : Int32))).bind fun v23 =>
      (f_X4_exchanged v23 p1 p2).bind fun v24 =>
      (fR 4 7 h p0).bind fun v25 =>
      (aI h v25 (((3 : Int32) * x4) + (2 : Int32))).bind fun v26 =>
      (f_X4_exchanged v26 p1 p2).bind fun v27 =>
      (f_X4_signOf p0 v21 v24 v27 h).bind fun v28 =>
      (wI h v18 x4 v28).bind fun h29 =>
      l_X4_exchange_45 p0 p1 p2 fuel (x4 + 1) h29
    )
def l_X4_exchange_120 (p0 : Nat) : Nat → Int32 → Hp → Option Hp
  | 0, _, _ => none
  | fuel + 1, x4, h =>
    (fI 4 9 h p0).bind fun v31 =>
    if v31 ≤ x4 then (
      some h
    ) else (
      (f_X4_clears p0 x4 h).bind fun h34 =>
      (fR 4 15 h34 p0).bind fun v35 =>
      (aI h34 v35 x4).bind fun v36 =>
      (f_X4_puts p0 x4 (0 : Int32) v36 h34).bind fun h38 =>
      (fR 4 15 h38 p0).bind fun v39 =>
      (aI h38 v39 x4).bind fun v40 =>
      (
        if v40 = (-100 : Int32) then (
          some ((0 : Int32))
        ) else (
          some ((1 : Int32))
        )
      ).bind fun v42 =>
      (f_X4_puts p0 x4 (1 : Int32) v42 h38).bind fun h47 =>
      l_X4_exchange_120 p0 fuel (x4 + 1) h47
    )
def l_X4_exchange_182 (p0 : Nat) (p1 : Int32) (p2 : Int32) : Nat → Int32 → Hp → Option Hp
  | 0, _, _ => none
  | fuel + 1, x4, h =>
    if (2 : Int32) ≤ x4 then (
      some h
    ) else (
      (fR 4 0 h p0).bind fun v50 =>
      (aI h v50 (((227 : Int32) + ((2 : Int32) * p1)) + x4)).bind fun v51 =>
      (fR 4 0 h p0).bind fun v52 =>
      (fR 4 0 h p0).bind fun v53 =>
      (aI h v53 (((227 : Int32) + ((2 : Int32) * p2)) + x4)).bind fun v54 =>
      (wI h v52 (((227 : Int32) + ((2 : Int32) * p1)) + x4) v54).bind fun h55 =>
      (fR 4 0 h55 p0).bind fun v56 =>
      (wI h55 v56 (((227 : Int32) + ((2 : Int32) * p2)) + x4) v51).bind fun h57 =>
      l_X4_exchange_182 p0 p1 p2 fuel (x4 + 1) h57
    )
def f_X4_exchange (o : Nat) (a1 : Int32) (a2 : Int32) (h : Hp) : Option (Int32 × Hp) :=
  (rc 4 h o).bind fun _ =>
  (f_X4_isPoint o a1 h).bind fun v1 =>
  if v1 = 0 then (
    bind2 (f_X4_fails o (1 : Int32) h) fun v3 h4 =>
    some ((v3, h4))
  ) else (
    (f_X4_isPoint o a2 h).bind fun v5 =>
    if v5 = 0 then (
      bind2 (f_X4_fails o (1 : Int32) h) fun v7 h8 =>
      some ((v7, h8))
    ) else (
      if a1 = a2 then (
        bind2 (f_X4_fails o (2 : Int32) h) fun v10 h11 =>
        some ((v10, h11))
      ) else (
        (f_X4_hold o h).bind fun h13 =>
        bind2 (f_X4_forgets o h13) fun v14 h15 =>
        (l_X4_exchange_45 o a1 a2 FU (0 : Int32) h15).bind fun h30 =>
        (l_X4_exchange_120 o FU (0 : Int32) h30).bind fun h48 =>
        (l_X4_exchange_182 o a1 a2 FU (0 : Int32) h48).bind fun h58 =>
        if 0 ≤ v14 then (
          (f_X4_many o (1 : Int32) h58).bind fun v60 =>
          bind2 (f_X4_ends o v60 h58) fun v61 h62 =>
          some ((v61, h62))
        ) else (
          bind2 (f_X4_ends o v14 h58) fun v63 h64 =>
          some ((v63, h64))
        )
      )
    )
  )
set_option maxHeartbeats 2000000 in
set_option maxRecDepth 20000 in
theorem L_X4_exchange_45 {g : GT} {Γ : CT} {Q : State → Prop} {mc ms : Nat} (C : Cx g Γ cX4_exchange RX4 "exchange" 6 (some .int) 9 mc ms) {p0 : Nat} {p1 : Int32} {p2 : Int32} {p3 : Int32} : ∀ {fuel : Nat} {x4 : Int32} {h : Hp} {hy : Hp}, l_X4_exchange_45 p0 p1 p2 fuel x4 h = some hy → U g Γ 6 Q 0 0 117 [(0, .ref p0), (1, .int p1), (2, .int p2), (3, .int p3)] [] hy → U g Γ 6 Q 0 0 45 [(0, .ref p0), (1, .int p1), (2, .int p2), (3, .int p3), (4, .int x4)] [] h := by
  intro fuel
  induction fuel with
  | zero =>
    intro x4 h hy hf J0
    simp only [l_X4_exchange_45, reduceCtorEq] at hf
  | succ fuel ih =>
    intro x4 h hy hf J0
    rw [l_X4_exchange_45] at hf
    refine U_iload (n := 47) 4 C dX4_exchange_45 rfl rfl ?_
    refine U_aload_n (n := 48) 0 C dX4_exchange_47 rfl rfl rfl ?_
    refine gf_RX4_71 (n := 51) C dX4_exchange_48 hf rfl (fun v16 hf => ?_)
    refine U_icge (tgt := 117) (n := 54) C dX4_exchange_51 (by decide) rfl (fun c17 => ?_) (fun c17 => ?_)
    · replace hf := (if_pos c17).symm.trans hf
      have hr := Option.some.inj hf
      subst hr
      exact U_lv [0, 1, 2, 3] rfl J0
    · replace hf := (if_neg c17).symm.trans hf
      refine U_aload_n (n := 55) 0 C dX4_exchange_54 rfl rfl rfl ?_
      refine gf_RX4_37 (n := 58) C dX4_exchange_55 hf rfl (fun v18 hf => ?_)
      refine U_iload (n := 60) 4 C dX4_exchange_58 rfl rfl ?_
      refine U_aload_n (n := 61) 0 C dX4_exchange_60 rfl rfl rfl ?_
      refine U_aload_n (n := 62) 0 C dX4_exchange_61 rfl rfl rfl ?_
      refine gf_RX4_22 (n := 65) C dX4_exchange_62 hf rfl (fun v19 hf => ?_)
      refine U_iconst (n := 66) (3 : Int32) C dX4_exchange_65 kiconst_3 rfl ?_
      refine U_iload (n := 68) 4 C dX4_exchange_66 rfl rfl ?_
      refine U_imul (n := 69) C dX4_exchange_68 rfl ?_
      refine U_iald (n := 70) C dX4_exchange_69 hf rfl (fun v20 hf => ?_)
      refine U_iload_n (n := 71) 1 C dX4_exchange_70 rfl rfl ?_
      refine U_iload_n (n := 72) 2 C dX4_exchange_71 rfl rfl ?_
      obtain ⟨v21, ev21, hf⟩ := bsome hf
      refine cv_RX4_173 (n := 75) C dX4_exchange_72 (av := [.int v20, .int p1, .int p2]) rfl (M_X4_exchanged ev21) (Nat.le_of_ble_eq_true rfl) (Nat.zero_le _) (Nat.zero_le _) (Nat.le_of_ble_eq_true rfl) rfl ?_
      refine U_aload_n (n := 76) 0 C dX4_exchange_75 rfl rfl rfl ?_
      refine gf_RX4_22 (n := 79) C dX4_exchange_76 hf rfl (fun v22 hf => ?_)
      refine U_iconst (n := 80) (3 : Int32) C dX4_exchange_79 kiconst_3 rfl ?_
      refine U_iload (n := 82) 4 C dX4_exchange_80 rfl rfl ?_
      refine U_imul (n := 83) C dX4_exchange_82 rfl ?_
      refine U_iconst (n := 84) (1 : Int32) C dX4_exchange_83 kiconst_1 rfl ?_
      refine U_iadd (n := 85) C dX4_exchange_84 rfl ?_
      refine U_iald (n := 86) C dX4_exchange_85 hf rfl (fun v23 hf => ?_)
      refine U_iload_n (n := 87) 1 C dX4_exchange_86 rfl rfl ?_
      refine U_iload_n (n := 88) 2 C dX4_exchange_87 rfl rfl ?_
      obtain ⟨v24, ev24, hf⟩ := bsome hf
      refine cv_RX4_173 (n := 91) C dX4_exchange_88 (av := [.int v23, .int p1, .int p2]) rfl (M_X4_exchanged ev24) (Nat.le_of_ble_eq_true rfl) (Nat.zero_le _) (Nat.zero_le _) (Nat.le_of_ble_eq_true rfl) rfl ?_
      refine U_aload_n (n := 92) 0 C dX4_exchange_91 rfl rfl rfl ?_
      refine gf_RX4_22 (n := 95) C dX4_exchange_92 hf rfl (fun v25 hf => ?_)
      refine U_iconst (n := 96) (3 : Int32) C dX4_exchange_95 kiconst_3 rfl ?_
      refine U_iload (n := 98) 4 C dX4_exchange_96 rfl rfl ?_
      refine U_imul (n := 99) C dX4_exchange_98 rfl ?_
      refine U_iconst (n := 100) (2 : Int32) C dX4_exchange_99 kiconst_2 rfl ?_
      refine U_iadd (n := 101) C dX4_exchange_100 rfl ?_
      refine U_iald (n := 102) C dX4_exchange_101 hf rfl (fun v26 hf => ?_)
      refine U_iload_n (n := 103) 1 C dX4_exchange_102 rfl rfl ?_
      refine U_iload_n (n := 104) 2 C dX4_exchange_103 rfl rfl ?_
      obtain ⟨v27, ev27, hf⟩ := bsome hf
      refine cv_RX4_173 (n := 107) C dX4_exchange_104 (av := [.int v26, .int p1, .int p2]) rfl (M_X4_exchanged ev27) (Nat.le_of_ble_eq_true rfl) (Nat.zero_le _) (Nat.zero_le _) (Nat.le_of_ble_eq_true rfl) rfl ?_
      obtain ⟨v28, ev28, hf⟩ := bsome hf
      refine cv_RX4_129 (n := 110) C dX4_exchange_107 (av := [.int v21, .int v24, .int v27]) rfl (rc_X4_signOf ev28) (M_X4_signOf ev28) (Nat.le_of_ble_eq_true rfl) (Nat.zero_le _) (Nat.zero_le _) (Nat.le_of_ble_eq_true rfl) rfl ?_
      refine U_iast (n := 111) C dX4_exchange_110 hf rfl (fun h29 hf => ?_)
      refine U_iinc (n := 114) (v := (x4 + 1)) (lv2 := [(4, .int (x4 + 1)), (0, .ref p0), (1, .int p1), (2, .int p2), (3, .int p3)]) 4 C dX4_exchange_111 rfl rfl (by decide) rfl rfl ?_
      refine U_goto (n := 0) (tgt := 45) C dX4_exchange_114 (by decide) ?_
      exact U_lv [1, 2, 3, 4, 0] rfl (ih hf J0)
set_option maxHeartbeats 2000000 in
set_option maxRecDepth 20000 in
theorem L_X4_exchange_120 {g : GT} {Γ : CT} {Q : State → Prop} {mc ms : Nat} (C : Cx g Γ cX4_exchange RX4 "exchange" 6 (some .int) 9 mc ms) {p0 : Nat} {p1 : Int32} {p2 : Int32} {p3 : Int32} : ∀ {fuel : Nat} {x4 : Int32} {h : Hp} {hy : Hp}, l_X4_exchange_120 p0 fuel x4 h = some hy → U g Γ 6 Q 0 0 179 [(0, .ref p0), (1, .int p1), (2, .int p2), (3, .int p3)] [] hy → U g Γ 6 Q 0 0 120 [(0, .ref p0), (1, .int p1), (2, .int p2), (3, .int p3), (4, .int x4)] [] h := by
  intro fuel
  induction fuel with
  | zero =>
    intro x4 h hy hf J0
    simp only [l_X4_exchange_120, reduceCtorEq] at hf
  | succ fuel ih =>
    intro x4 h hy hf J0
    rw [l_X4_exchange_120] at hf
    refine U_iload (n := 122) 4 C dX4_exchange_120 rfl rfl ?_
    refine U_aload_n (n := 123) 0 C dX4_exchange_122 rfl rfl rfl ?_
    refine gf_RX4_71 (n := 126) C dX4_exchange_123 hf rfl (fun v31 hf => ?_)
    refine U_icge (tgt := 179) (n := 129) C dX4_exchange_126 (by decide) rfl (fun c32 => ?_) (fun c32 => ?_)
    · replace hf := (if_pos c32).symm.trans hf
      have hr := Option.some.inj hf
      subst hr
      exact U_lv [0, 1, 2, 3] rfl J0
    · replace hf := (if_neg c32).symm.trans hf
      refine U_aload_n (n := 130) 0 C dX4_exchange_129 rfl rfl rfl ?_
      refine U_iload (n := 132) 4 C dX4_exchange_130 rfl rfl ?_
      obtain ⟨h34, ev33, hf⟩ := bsome hf
      refine cv_RX4_81 (n := 135) C dX4_exchange_132 (av := [.int x4]) rfl (rc_X4_clears ev33) (M_X4_clears ev33) (Nat.le_of_ble_eq_true rfl) (Nat.zero_le _) (Nat.zero_le _) (Nat.le_of_ble_eq_true rfl) rfl ?_
      refine U_aload_n (n := 136) 0 C dX4_exchange_135 rfl rfl rfl ?_
      refine U_iload (n := 138) 4 C dX4_exchange_136 rfl rfl ?_
      refine U_iconst (n := 139) (0 : Int32) C dX4_exchange_138 kiconst_0 rfl ?_
      refine U_aload_n (n := 140) 0 C dX4_exchange_139 rfl rfl rfl ?_
      refine gf_RX4_37 (n := 143) C dX4_exchange_140 hf rfl (fun v35 hf => ?_)
      refine U_iload (n := 145) 4 C dX4_exchange_143 rfl rfl ?_
      refine U_iald (n := 146) C dX4_exchange_145 hf rfl (fun v36 hf => ?_)
      obtain ⟨h38, ev37, hf⟩ := bsome hf
      refine cv_RX4_87 (n := 149) C dX4_exchange_146 (av := [.int x4, .int (0 : Int32), .int v36]) rfl (rc_X4_puts ev37) (M_X4_puts ev37) (Nat.le_of_ble_eq_true rfl) (Nat.zero_le _) (Nat.zero_le _) (Nat.le_of_ble_eq_true rfl) rfl ?_
      refine U_aload_n (n := 150) 0 C dX4_exchange_149 rfl rfl rfl ?_
      refine U_iload (n := 152) 4 C dX4_exchange_150 rfl rfl ?_
      refine U_iconst (n := 153) (1 : Int32) C dX4_exchange_152 kiconst_1 rfl ?_
      refine U_aload_n (n := 154) 0 C dX4_exchange_153 rfl rfl rfl ?_
      refine gf_RX4_37 (n := 157) C dX4_exchange_154 hf rfl (fun v39 hf => ?_)
      refine U_iload (n := 159) 4 C dX4_exchange_157 rfl rfl ?_
      refine U_iald (n := 160) C dX4_exchange_159 hf rfl (fun v40 hf => ?_)
      refine U_bipush (n := 162) (-100 : Int32) C dX4_exchange_160 kbipush_m100 rfl ?_
      refine U_join1 (fun v42 => U g Γ 6 Q 0 0 170 [(0, .ref p0), (1, .int p1), (2, .int p2), (3, .int p3), (4, .int x4)] [.int v42, .int (1 : Int32), .int x4, .ref p0] h38) hf (fun v42 hf => ?_) (fun v42 hf J44 => ?_)
      · skip
        obtain ⟨h47, ev46, hf⟩ := bsome hf
        refine cv_RX4_87 (n := 173) C dX4_exchange_170 (av := [.int x4, .int (1 : Int32), .int v42]) rfl (rc_X4_puts ev46) (M_X4_puts ev46) (Nat.le_of_ble_eq_true rfl) (Nat.zero_le _) (Nat.zero_le _) (Nat.le_of_ble_eq_true rfl) rfl ?_
        refine U_iinc (n := 176) (v := (x4 + 1)) (lv2 := [(4, .int (x4 + 1)), (0, .ref p0), (1, .int p1), (2, .int p2), (3, .int p3)]) 4 C dX4_exchange_173 rfl rfl (by decide) rfl rfl ?_
        refine U_goto (n := 0) (tgt := 120) C dX4_exchange_176 (by decide) ?_
        exact U_lv [1, 2, 3, 4, 0] rfl (ih hf J0)
      · skip
        refine U_icne (tgt := 169) (n := 165) C dX4_exchange_162 (by decide) rfl (fun c41 => ?_) (fun c41 => ?_)
        · replace hf := (if_pos c41).symm.trans hf
          refine U_iconst (n := 166) (0 : Int32) C dX4_exchange_165 kiconst_0 rfl ?_
          refine U_goto (n := 0) (tgt := 170) C dX4_exchange_166 (by decide) ?_
          have hr := Option.some.inj hf
          subst hr
          exact U_lv [0, 1, 2, 3, 4] rfl J44
        · replace hf := (if_neg c41).symm.trans hf
          refine U_iconst (n := 170) (1 : Int32) C dX4_exchange_169 kiconst_1 rfl ?_
          have hr := Option.some.inj hf
          subst hr
          exact U_lv [0, 1, 2, 3, 4] rfl J44
set_option maxHeartbeats 2000000 in
set_option maxRecDepth 20000 in
theorem L_X4_exchange_182 {g : GT} {Γ : CT} {Q : State → Prop} {mc ms : Nat} (C : Cx g Γ cX4_exchange RX4 "exchange" 6 (some .int) 9 mc ms) {p0 : Nat} {p1 : Int32} {p2 : Int32} {p3 : Int32} : ∀ {fuel : Nat} {x4 : Int32} {h : Hp} {hy : Hp}, l_X4_exchange_182 p0 p1 p2 fuel x4 h = some hy → U g Γ 6 Q 0 0 258 [(0, .ref p0), (3, .int p3)] [] hy → U g Γ 6 Q 0 0 182 [(0, .ref p0), (1, .int p1), (2, .int p2), (3, .int p3), (4, .int x4)] [] h := by
  intro fuel
  induction fuel with
  | zero =>
    intro x4 h hy hf J0
    simp only [l_X4_exchange_182, reduceCtorEq] at hf
  | succ fuel ih =>
    intro x4 h hy hf J0
    rw [l_X4_exchange_182] at hf
    refine U_iload (n := 184) 4 C dX4_exchange_182 rfl rfl ?_
    refine U_iconst (n := 185) (2 : Int32) C dX4_exchange_184 kiconst_2 rfl ?_
    refine U_icge (tgt := 258) (n := 188) C dX4_exchange_185 (by decide) rfl (fun c49 => ?_) (fun c49 => ?_)
    · replace hf := (if_pos c49).symm.trans hf
      have hr := Option.some.inj hf
      subst hr
      exact U_lv [0, 3] rfl J0
    · replace hf := (if_neg c49).symm.trans hf
      refine U_aload_n (n := 189) 0 C dX4_exchange_188 rfl rfl rfl ?_
      refine gf_RX4_7 (n := 192) C dX4_exchange_189 hf rfl (fun v50 hf => ?_)
      refine U_sipush (n := 195) (227 : Int32) C dX4_exchange_192 ksipush_227 rfl ?_
      refine U_iconst (n := 196) (2 : Int32) C dX4_exchange_195 kiconst_2 rfl ?_
      refine U_iload_n (n := 197) 1 C dX4_exchange_196 rfl rfl ?_
      refine U_imul (n := 198) C dX4_exchange_197 rfl ?_
      refine U_iadd (n := 199) C dX4_exchange_198 rfl ?_
      refine U_iload (n := 201) 4 C dX4_exchange_199 rfl rfl ?_
      refine U_iadd (n := 202) C dX4_exchange_201 rfl ?_
      refine U_iald (n := 203) C dX4_exchange_202 hf rfl (fun v51 hf => ?_)
      refine U_istore (n := 205) (lv2 := [(5, .int v51), (0, .ref p0), (1, .int p1), (2, .int p2), (3, .int p3), (4, .int x4)]) C dX4_exchange_203 (by decide) rfl rfl ?_
      refine U_aload_n (n := 206) 1 C dX4_exchange_205 rfl rfl rfl ?_
      refine gf_RX4_7 (n := 209) C dX4_exchange_206 hf rfl (fun v52 hf => ?_)
      refine U_sipush (n := 212) (227 : Int32) C dX4_exchange_209 ksipush_227 rfl ?_
      refine U_iconst (n := 213) (2 : Int32) C dX4_exchange_212 kiconst_2 rfl ?_
      refine U_iload_n (n := 214) 2 C dX4_exchange_213 rfl rfl ?_
      refine U_imul (n := 215) C dX4_exchange_214 rfl ?_
      refine U_iadd (n := 216) C dX4_exchange_215 rfl ?_
      refine U_iload (n := 218) 5 C dX4_exchange_216 rfl rfl ?_
      refine U_iadd (n := 219) C dX4_exchange_218 rfl ?_
      refine U_aload_n (n := 220) 1 C dX4_exchange_219 rfl rfl rfl ?_
      refine gf_RX4_7 (n := 223) C dX4_exchange_220 hf rfl (fun v53 hf => ?_)
      refine U_sipush (n := 226) (227 : Int32) C dX4_exchange_223 ksipush_227 rfl ?_
      refine U_iconst (n := 227) (2 : Int32) C dX4_exchange_226 kiconst_2 rfl ?_
      refine U_iload_n (n := 228) 3 C dX4_exchange_227 rfl rfl ?_
      refine U_imul (n := 229) C dX4_exchange_228 rfl ?_
      refine U_iadd (n := 230) C dX4_exchange_229 rfl ?_
      refine U_iload (n := 232) 5 C dX4_exchange_230 rfl rfl ?_
      refine U_iadd (n := 233) C dX4_exchange_232 rfl ?_
      refine U_iald (n := 234) C dX4_exchange_233 hf rfl (fun v54 hf => ?_)
      refine U_iast (n := 235) C dX4_exchange_234 hf rfl (fun h55 hf => ?_)
      refine U_aload_n (n := 236) 1 C dX4_exchange_235 rfl rfl rfl ?_
      refine gf_RX4_7 (n := 239) C dX4_exchange_236 hf rfl (fun v56 hf => ?_)
      refine U_sipush (n := 242) (227 : Int32) C dX4_exchange_239 ksipush_227 rfl ?_
      refine U_iconst (n := 243) (2 : Int32) C dX4_exchange_242 kiconst_2 rfl ?_
      refine U_iload_n (n := 244) 3 C dX4_exchange_243 rfl rfl ?_
      refine U_imul (n := 245) C dX4_exchange_244 rfl ?_
      refine U_iadd (n := 246) C dX4_exchange_245 rfl ?_
      refine U_iload (n := 248) 5 C dX4_exchange_246 rfl rfl ?_
      refine U_iadd (n := 249) C dX4_exchange_248 rfl ?_
      refine U_iload (n := 251) 0 C dX4_exchange_249 rfl rfl ?_
      refine U_iast (n := 252) C dX4_exchange_251 hf rfl (fun h57 hf => ?_)
      refine U_iinc (n := 255) (v := (x4 + 1)) (lv2 := [(4, .int (x4 + 1)), (5, .int v51), (0, .ref p0), (1, .int p1), (2, .int p2), (3, .int p3)]) 5 C dX4_exchange_252 rfl rfl (by decide) rfl rfl ?_
      refine U_goto (n := 0) (tgt := 182) C dX4_exchange_255 (by decide) ?_
      exact U_lv [2, 3, 4, 5, 0] rfl (ih hf J0)
theorem rc_X4_exchange {o : Nat} {a1 : Int32} {a2 : Int32} {h : Hp} {z} (hf : f_X4_exchange o a1 a2 h = some z) : rc 4 h o = some () := by
  unfold f_X4_exchange at hf
  exact (bsome hf).choose_spec.1
set_option maxHeartbeats 2000000 in
set_option maxRecDepth 20000 in
theorem M_X4_exchange {g : GT} {o : Nat} {a1 : Int32} {a2 : Int32} {h : Hp} {r : Int32} {h2 : Hp} (hf : f_X4_exchange o a1 a2 h = some (r, h2)) : CM g yX4_exchange cX4_exchange 6 (some .int) 9 0 0 [.ref o, .int a1, .int a2] h (.inr (some (.int r))) h2 := by
  refine CM_of rfl (fun _ => Nat.le_of_ble_eq_true rfl) (fun Γ C hn0 => ?_)
  have C : Cx g Γ cX4_exchange RX4 "exchange" 6 (some .int) 9 0 0 := C
  generalize hQ : Qe g Γ (.inr (some (.int r))) h2 0 0 = Q
  show U g Γ 6 Q 0 0 0 [(0, .ref o), (1, .int a1), (2, .int a2)] [] h
  unfold f_X4_exchange at hf
  replace hf := (bsome hf).choose_spec.2
  refine U_aload_n (n := 1) 0 C dX4_exchange_0 rfl rfl rfl ?_
  refine U_iload_n (n := 2) 1 C dX4_exchange_1 rfl rfl ?_
  obtain ⟨v1, ev1, hf⟩ := bsome hf
  refine cv_RX4_95 (n := 5) C dX4_exchange_2 (av := [.int a1]) rfl (rc_X4_isPoint ev1) (M_X4_isPoint ev1) (Nat.le_of_ble_eq_true rfl) (Nat.zero_le _) (Nat.zero_le _) (Nat.le_of_ble_eq_true rfl) rfl ?_
  refine U_ifeq (tgt := 16) (n := 8) C dX4_exchange_5 (by decide) rfl (fun c2 => ?_) (fun c2 => ?_)
  · replace hf := (if_pos c2).symm.trans hf
    refine U_aload_n (n := 17) 0 C dX4_exchange_16 rfl rfl rfl ?_
    refine U_iconst (n := 18) (1 : Int32) C dX4_exchange_17 kiconst_1 rfl ?_
    obtain ⟨v3, h4, ev3, hf⟩ := bsome2 hf
    refine cv_RX4_113 (n := 21) C dX4_exchange_18 (av := [.int (1 : Int32)]) rfl (rc_X4_fails ev3) (M_X4_fails ev3) (Nat.le_of_ble_eq_true rfl) (Nat.zero_le _) (Nat.zero_le _) (Nat.le_of_ble_eq_true rfl) rfl ?_
    obtain ⟨hr1, hr2⟩ := Prod.mk.inj (Option.some.inj hf)
    subst hr1; subst hr2
    subst hQ
    exact U_iret C dX4_exchange_21 (Nat.le_refl 0) (Nat.le_refl 0)
  · replace hf := (if_neg c2).symm.trans hf
    refine U_aload_n (n := 9) 0 C dX4_exchange_8 rfl rfl rfl ?_
    refine U_iload_n (n := 10) 2 C dX4_exchange_9 rfl rfl ?_
    obtain ⟨v5, ev5, hf⟩ := bsome hf
    refine cv_RX4_95 (n := 13) C dX4_exchange_10 (av := [.int a2]) rfl (rc_X4_isPoint ev5) (M_X4_isPoint ev5) (Nat.le_of_ble_eq_true rfl) (Nat.zero_le _) (Nat.zero_le _) (Nat.le_of_ble_eq_true rfl) rfl ?_
    refine U_ifne (tgt := 22) (n := 16) C dX4_exchange_13 (by decide) rfl (fun c6 => ?_) (fun c6 => ?_)
    · replace hf := (if_pos c6).symm.trans hf
      refine U_aload_n (n := 17) 0 C dX4_exchange_16 rfl rfl rfl ?_
      refine U_iconst (n := 18) (1 : Int32) C dX4_exchange_17 kiconst_1 rfl ?_
      obtain ⟨v7, h8, ev7, hf⟩ := bsome2 hf
      refine cv_RX4_113 (n := 21) C dX4_exchange_18 (av := [.int (1 : Int32)]) rfl (rc_X4_fails ev7) (M_X4_fails ev7) (Nat.le_of_ble_eq_true rfl) (Nat.zero_le _) (Nat.zero_le _) (Nat.le_of_ble_eq_true rfl) rfl ?_
      obtain ⟨hr1, hr2⟩ := Prod.mk.inj (Option.some.inj hf)
      subst hr1; subst hr2
      subst hQ
      exact U_iret C dX4_exchange_21 (Nat.le_refl 0) (Nat.le_refl 0)
    · replace hf := (if_neg c6).symm.trans hf
      refine U_iload_n (n := 23) 1 C dX4_exchange_22 rfl rfl ?_
      refine U_iload_n (n := 24) 2 C dX4_exchange_23 rfl rfl ?_
      refine U_icne (tgt := 33) (n := 27) C dX4_exchange_24 (by decide) rfl (fun c9 => ?_) (fun c9 => ?_)
      · replace hf := (if_pos c9).symm.trans hf
        refine U_aload_n (n := 28) 0 C dX4_exchange_27 rfl rfl rfl ?_
        refine U_iconst (n := 29) (2 : Int32) C dX4_exchange_28 kiconst_2 rfl ?_
        obtain ⟨v10, h11, ev10, hf⟩ := bsome2 hf
        refine cv_RX4_113 (n := 32) C dX4_exchange_29 (av := [.int (2 : Int32)]) rfl (rc_X4_fails ev10) (M_X4_fails ev10) (Nat.le_of_ble_eq_true rfl) (Nat.zero_le _) (Nat.zero_le _) (Nat.le_of_ble_eq_true rfl) rfl ?_
        obtain ⟨hr1, hr2⟩ := Prod.mk.inj (Option.some.inj hf)
        subst hr1; subst hr2
        subst hQ
        exact U_iret C dX4_exchange_32 (Nat.le_refl 0) (Nat.le_refl 0)
      · replace hf := (if_neg c9).symm.trans hf
        refine U_aload_n (n := 34) 0 C dX4_exchange_33 rfl rfl rfl ?_
        obtain ⟨h13, ev12, hf⟩ := bsome hf
        refine cv_RX4_116 (n := 37) C dX4_exchange_34 (av := []) rfl (rc_X4_hold ev12) (M_X4_hold ev12) (Nat.le_of_ble_eq_true rfl) (Nat.zero_le _) (Nat.zero_le _) (Nat.le_of_ble_eq_true rfl) rfl ?_
        refine U_aload_n (n := 38) 0 C dX4_exchange_37 rfl rfl rfl ?_
        obtain ⟨v14, h15, ev14, hf⟩ := bsome2 hf
        refine cv_RX4_122 (n := 41) C dX4_exchange_38 (av := []) rfl (rc_X4_forgets ev14) (M_X4_forgets ev14) (Nat.le_of_ble_eq_true rfl) (Nat.zero_le _) (Nat.zero_le _) (Nat.le_of_ble_eq_true rfl) rfl ?_
        refine U_istore_n (n := 42) (lv2 := [(3, .int v14), (0, .ref o), (1, .int a1), (2, .int a2)]) C dX4_exchange_41 (by decide) rfl rfl ?_
        refine U_iconst (n := 43) (0 : Int32) C dX4_exchange_42 kiconst_0 rfl ?_
        refine U_istore (n := 45) (lv2 := [(4, .int (0 : Int32)), (3, .int v14), (0, .ref o), (1, .int a1), (2, .int a2)]) C dX4_exchange_43 (by decide) rfl rfl ?_
        refine U_join1 (fun h30 => U g Γ 6 Q 0 0 117 [(0, .ref o), (1, .int a1), (2, .int a2), (3, .int v14)] [] h30) hf (fun h30 hf => ?_) (fun h30 hf J => U_lv [2, 3, 4, 1, 0] rfl (L_X4_exchange_45 C hf J))
        refine U_iconst (n := 118) (0 : Int32) C dX4_exchange_117 kiconst_0 rfl ?_
        refine U_istore (n := 120) (lv2 := [(4, .int (0 : Int32)), (0, .ref o), (1, .int a1), (2, .int a2), (3, .int v14)]) C dX4_exchange_118 (by decide) rfl rfl ?_
        refine U_join1 (fun h48 => U g Γ 6 Q 0 0 179 [(0, .ref o), (1, .int a1), (2, .int a2), (3, .int v14)] [] h48) hf (fun h48 hf => ?_) (fun h48 hf J => U_lv [1, 2, 3, 4, 0] rfl (L_X4_exchange_120 C hf J))
        refine U_iconst (n := 180) (0 : Int32) C dX4_exchange_179 kiconst_0 rfl ?_
        refine U_istore (n := 182) (lv2 := [(4, .int (0 : Int32)), (0, .ref o), (1, .int a1), (2, .int a2), (3, .int v14)]) C dX4_exchange_180 (by decide) rfl rfl ?_
        refine U_join1 (fun h58 => U g Γ 6 Q 0 0 258 [(0, .ref o), (3, .int v14)] [] h58) hf (fun h58 hf => ?_) (fun h58 hf J => U_lv [1, 2, 3, 4, 0] rfl (L_X4_exchange_182 C hf J))
        refine U_aload_n (n := 259) 0 C dX4_exchange_258 rfl rfl rfl ?_
        refine U_iload_n (n := 260) 1 C dX4_exchange_259 rfl rfl ?_
        refine U_ifge (tgt := 267) (n := 263) C dX4_exchange_260 (by decide) rfl (fun c59 => ?_) (fun c59 => ?_)
        · replace hf := (if_pos c59).symm.trans hf
          refine U_aload_n (n := 268) 0 C dX4_exchange_267 rfl rfl rfl ?_
          refine U_iconst (n := 269) (1 : Int32) C dX4_exchange_268 kiconst_1 rfl ?_
          obtain ⟨v60, ev60, hf⟩ := bsome hf
          refine cv_RX4_161 (n := 272) C dX4_exchange_269 (av := [.int (1 : Int32)]) rfl (rc_X4_many ev60) (M_X4_many ev60) (Nat.le_of_ble_eq_true rfl) (Nat.zero_le _) (Nat.zero_le _) (Nat.le_of_ble_eq_true rfl) rfl ?_
          obtain ⟨v61, h62, ev61, hf⟩ := bsome2 hf
          refine cv_RX4_119 (n := 275) C dX4_exchange_272 (av := [.int v60]) rfl (rc_X4_ends ev61) (M_X4_ends ev61) (Nat.le_of_ble_eq_true rfl) (Nat.zero_le _) (Nat.zero_le _) (Nat.le_of_ble_eq_true rfl) rfl ?_
          obtain ⟨hr1, hr2⟩ := Prod.mk.inj (Option.some.inj hf)
          subst hr1; subst hr2
          subst hQ
          exact U_iret C dX4_exchange_275 (Nat.le_refl 0) (Nat.le_refl 0)
        · replace hf := (if_neg c59).symm.trans hf
          refine U_iload_n (n := 264) 1 C dX4_exchange_263 rfl rfl ?_
          refine U_goto (n := 0) (tgt := 272) C dX4_exchange_264 (by decide) ?_
          obtain ⟨v63, h64, ev63, hf⟩ := bsome2 hf
          refine cv_RX4_119 (n := 275) C dX4_exchange_272 (av := [.int v14]) rfl (rc_X4_ends ev63) (M_X4_ends ev63) (Nat.le_of_ble_eq_true rfl) (Nat.zero_le _) (Nat.zero_le _) (Nat.le_of_ble_eq_true rfl) rfl ?_
          obtain ⟨hr1, hr2⟩ := Prod.mk.inj (Option.some.inj hf)
          subst hr1; subst hr2
          subst hQ
          exact U_iret C dX4_exchange_275 (Nat.le_refl 0) (Nat.le_refl 0)
def f_X4_sign (o : Nat) (a1 : Int32) (a2 : Int32) (a3 : Int32) (h : Hp) : Option (Int32 × Hp) :=
  (rc 4 h o).bind fun _ =>
  (f_X4_arePoints o a1 a2 a3 h).bind fun v1 =>
  if v1 = 0 then (
    bind2 (f_X4_fails o (1 : Int32) h) fun v3 h4 =>
    some ((v3, h4))
  ) else (
    (f_X4_signOf o a1 a2 a3 h).bind fun v5 =>
    bind2 (f_X4_tells o v5 h) fun v6 h7 =>
    some ((v6, h7))
  )
theorem rc_X4_sign {o : Nat} {a1 : Int32} {a2 : Int32} {a3 : Int32} {h : Hp} {z} (hf : f_X4_sign o a1 a2 a3 h = some z) : rc 4 h o = some () := by
  unfold f_X4_sign at hf
  exact (bsome hf).choose_spec.1
set_option maxHeartbeats 2000000 in
set_option maxRecDepth 20000 in
theorem M_X4_sign {g : GT} {o : Nat} {a1 : Int32} {a2 : Int32} {a3 : Int32} {h : Hp} {r : Int32} {h2 : Hp} (hf : f_X4_sign o a1 a2 a3 h = some (r, h2)) : CM g yX4_sign cX4_sign 4 (some .int) 9 0 0 [.ref o, .int a1, .int a2, .int a3] h (.inr (some (.int r))) h2 := by
  refine CM_of rfl (fun _ => Nat.le_of_ble_eq_true rfl) (fun Γ C hn0 => ?_)
  have C : Cx g Γ cX4_sign RX4 "sign" 4 (some .int) 9 0 0 := C
  generalize hQ : Qe g Γ (.inr (some (.int r))) h2 0 0 = Q
  show U g Γ 4 Q 0 0 0 [(0, .ref o), (1, .int a1), (2, .int a2), (3, .int a3)] [] h
  unfold f_X4_sign at hf
  replace hf := (bsome hf).choose_spec.2
  refine U_aload_n (n := 1) 0 C dX4_sign_0 rfl rfl rfl ?_
  refine U_iload_n (n := 2) 1 C dX4_sign_1 rfl rfl ?_
  refine U_iload_n (n := 3) 2 C dX4_sign_2 rfl rfl ?_
  refine U_iload_n (n := 4) 3 C dX4_sign_3 rfl rfl ?_
  obtain ⟨v1, ev1, hf⟩ := bsome hf
  refine cv_RX4_126 (n := 7) C dX4_sign_4 (av := [.int a1, .int a2, .int a3]) rfl (rc_X4_arePoints ev1) (M_X4_arePoints ev1) (Nat.le_of_ble_eq_true rfl) (Nat.zero_le _) (Nat.zero_le _) (Nat.le_of_ble_eq_true rfl) rfl ?_
  refine U_ifeq (tgt := 24) (n := 10) C dX4_sign_7 (by decide) rfl (fun c2 => ?_) (fun c2 => ?_)
  · replace hf := (if_pos c2).symm.trans hf
    refine U_aload_n (n := 25) 0 C dX4_sign_24 rfl rfl rfl ?_
    refine U_iconst (n := 26) (1 : Int32) C dX4_sign_25 kiconst_1 rfl ?_
    obtain ⟨v3, h4, ev3, hf⟩ := bsome2 hf
    refine cv_RX4_113 (n := 29) C dX4_sign_26 (av := [.int (1 : Int32)]) rfl (rc_X4_fails ev3) (M_X4_fails ev3) (Nat.le_of_ble_eq_true rfl) (Nat.zero_le _) (Nat.zero_le _) (Nat.le_of_ble_eq_true rfl) rfl ?_
    obtain ⟨hr1, hr2⟩ := Prod.mk.inj (Option.some.inj hf)
    subst hr1; subst hr2
    subst hQ
    exact U_iret C dX4_sign_29 (Nat.le_refl 0) (Nat.le_refl 0)
  · replace hf := (if_neg c2).symm.trans hf
    refine U_aload_n (n := 11) 0 C dX4_sign_10 rfl rfl rfl ?_
    refine U_aload_n (n := 12) 0 C dX4_sign_11 rfl rfl rfl ?_
    refine U_iload_n (n := 13) 1 C dX4_sign_12 rfl rfl ?_
    refine U_iload_n (n := 14) 2 C dX4_sign_13 rfl rfl ?_
    refine U_iload_n (n := 15) 3 C dX4_sign_14 rfl rfl ?_
    obtain ⟨v5, ev5, hf⟩ := bsome hf
    refine cv_RX4_129 (n := 18) C dX4_sign_15 (av := [.int a1, .int a2, .int a3]) rfl (rc_X4_signOf ev5) (M_X4_signOf ev5) (Nat.le_of_ble_eq_true rfl) (Nat.zero_le _) (Nat.zero_le _) (Nat.le_of_ble_eq_true rfl) rfl ?_
    obtain ⟨v6, h7, ev6, hf⟩ := bsome2 hf
    refine cv_RX4_67 (n := 21) C dX4_sign_18 (av := [.int v5]) rfl (rc_X4_tells ev6) (M_X4_tells ev6) (Nat.le_of_ble_eq_true rfl) (Nat.zero_le _) (Nat.zero_le _) (Nat.le_of_ble_eq_true rfl) rfl ?_
    refine U_goto (n := 0) (tgt := 29) C dX4_sign_21 (by decide) ?_
    obtain ⟨hr1, hr2⟩ := Prod.mk.inj (Option.some.inj hf)
    subst hr1; subst hr2
    subst hQ
    exact U_iret C dX4_sign_29 (Nat.le_refl 0) (Nat.le_refl 0)
def f_X4_isTriple (o : Nat) (a1 : Int32) (h : Hp) : Option Int32 :=
  (rc 4 h o).bind fun _ =>
  (fI 4 9 h o).bind fun v1 =>
  (f_X4_in a1 (0 : Int32) (v1 - (1 : Int32))).bind fun v2 =>
  (gB v2).bind fun _ =>
  some (v2)
theorem rc_X4_isTriple {o : Nat} {a1 : Int32} {h : Hp} {z} (hf : f_X4_isTriple o a1 h = some z) : rc 4 h o = some () := by
  unfold f_X4_isTriple at hf
  exact (bsome hf).choose_spec.1
set_option maxHeartbeats 2000000 in
set_option maxRecDepth 20000 in
theorem M_X4_isTriple {g : GT} {o : Nat} {a1 : Int32} {h : Hp} {r : Int32} (hf : f_X4_isTriple o a1 h = some r) : CM g yX4_isTriple cX4_isTriple 2 (some .boolean) 7 0 0 [.ref o, .int a1] h (.inr (some (.int r))) h := by
  refine CM_of rfl (fun _ => Nat.le_of_ble_eq_true rfl) (fun Γ C hn0 => ?_)
  have C : Cx g Γ cX4_isTriple RX4 "isTriple" 2 (some .boolean) 7 0 0 := C
  generalize hQ : Qe g Γ (.inr (some (.int r))) h 0 0 = Q
  show U g Γ 2 Q 0 0 0 [(0, .ref o), (1, .int a1)] [] h
  unfold f_X4_isTriple at hf
  replace hf := (bsome hf).choose_spec.2
  refine U_iload_n (n := 1) 1 C dX4_isTriple_0 rfl rfl ?_
  refine U_iconst (n := 2) (0 : Int32) C dX4_isTriple_1 kiconst_0 rfl ?_
  refine U_aload_n (n := 3) 0 C dX4_isTriple_2 rfl rfl rfl ?_
  refine gf_RX4_71 (n := 6) C dX4_isTriple_3 hf rfl (fun v1 hf => ?_)
  refine U_iconst (n := 7) (1 : Int32) C dX4_isTriple_6 kiconst_1 rfl ?_
  refine U_isub (n := 8) C dX4_isTriple_7 rfl ?_
  obtain ⟨v2, ev2, hf⟩ := bsome hf
  refine cv_RX4_91 (n := 11) C dX4_isTriple_8 (av := [.int a1, .int (0 : Int32), .int (v1 - (1 : Int32))]) rfl (M_X4_in ev2) (Nat.le_of_ble_eq_true rfl) (Nat.zero_le _) (Nat.zero_le _) (Nat.le_of_ble_eq_true rfl) rfl ?_
  obtain ⟨_, hz, hf⟩ := bsome hf
  replace hz := gB_spec hz
  have hr := (Option.some.inj hf)
  subst hr
  subst hQ
  exact U_zret C dX4_isTriple_11 hz (Nat.le_refl 0) (Nat.le_refl 0)
def f_X4_value (o : Nat) (a1 : Int32) (a2 : Int32) (h : Hp) : Option Int32 :=
  (rc 4 h o).bind fun _ =>
  if (3 : Int32) ≤ a2 then (
    (f_X4_get o a1 (a2 - (3 : Int32)) h).bind fun v2 =>
    some (v2)
  ) else (
    (fR 4 7 h o).bind fun v3 =>
    (aI h v3 (((3 : Int32) * a1) + a2)).bind fun v4 =>
    some (v4)
  )
theorem rc_X4_value {o : Nat} {a1 : Int32} {a2 : Int32} {h : Hp} {z} (hf : f_X4_value o a1 a2 h = some z) : rc 4 h o = some () := by
  unfold f_X4_value at hf
  exact (bsome hf).choose_spec.1
set_option maxHeartbeats 2000000 in
set_option maxRecDepth 20000 in
theorem M_X4_value {g : GT} {o : Nat} {a1 : Int32} {a2 : Int32} {h : Hp} {r : Int32} (hf : f_X4_value o a1 a2 h = some r) : CM g yX4_value cX4_value 3 (some .int) 7 0 0 [.ref o, .int a1, .int a2] h (.inr (some (.int r))) h := by
  refine CM_of rfl (fun _ => Nat.le_of_ble_eq_true rfl) (fun Γ C hn0 => ?_)
  have C : Cx g Γ cX4_value RX4 "value" 3 (some .int) 7 0 0 := C
  generalize hQ : Qe g Γ (.inr (some (.int r))) h 0 0 = Q
  show U g Γ 3 Q 0 0 0 [(0, .ref o), (1, .int a1), (2, .int a2)] [] h
  unfold f_X4_value at hf
  replace hf := (bsome hf).choose_spec.2
  refine U_iload_n (n := 1) 2 C dX4_value_0 rfl rfl ?_
  refine U_iconst (n := 2) (3 : Int32) C dX4_value_1 kiconst_3 rfl ?_
  refine U_icge (tgt := 18) (n := 5) C dX4_value_2 (by decide) rfl (fun c1 => ?_) (fun c1 => ?_)
  · replace hf := (if_pos c1).symm.trans hf
    refine U_aload_n (n := 19) 0 C dX4_value_18 rfl rfl rfl ?_
    refine U_iload_n (n := 20) 1 C dX4_value_19 rfl rfl ?_
    refine U_iload_n (n := 21) 2 C dX4_value_20 rfl rfl ?_
    refine U_iconst (n := 22) (3 : Int32) C dX4_value_21 kiconst_3 rfl ?_
    refine U_isub (n := 23) C dX4_value_22 rfl ?_
    obtain ⟨v2, ev2, hf⟩ := bsome hf
    refine cv_RX4_106 (n := 26) C dX4_value_23 (av := [.int a1, .int (a2 - (3 : Int32))]) rfl (rc_X4_get ev2) (M_X4_get ev2) (Nat.le_of_ble_eq_true rfl) (Nat.zero_le _) (Nat.zero_le _) (Nat.le_of_ble_eq_true rfl) rfl ?_
    have hr := (Option.some.inj hf)
    subst hr
    subst hQ
    exact U_iret C dX4_value_26 (Nat.le_refl 0) (Nat.le_refl 0)
  · replace hf := (if_neg c1).symm.trans hf
    refine U_aload_n (n := 6) 0 C dX4_value_5 rfl rfl rfl ?_
    refine gf_RX4_22 (n := 9) C dX4_value_6 hf rfl (fun v3 hf => ?_)
    refine U_iconst (n := 10) (3 : Int32) C dX4_value_9 kiconst_3 rfl ?_
    refine U_iload_n (n := 11) 1 C dX4_value_10 rfl rfl ?_
    refine U_imul (n := 12) C dX4_value_11 rfl ?_
    refine U_iload_n (n := 13) 2 C dX4_value_12 rfl rfl ?_
    refine U_iadd (n := 14) C dX4_value_13 rfl ?_
    refine U_iald (n := 15) C dX4_value_14 hf rfl (fun v4 hf => ?_)
    refine U_goto (n := 0) (tgt := 26) C dX4_value_15 (by decide) ?_
    have hr := (Option.some.inj hf)
    subst hr
    subst hQ
    exact U_iret C dX4_value_26 (Nat.le_refl 0) (Nat.le_refl 0)
def f_X4_triple (o : Nat) (a1 : Int32) (a2 : Int32) (h : Hp) : Option (Int32 × Hp) :=
  (rc 4 h o).bind fun _ =>
  (f_X4_isTriple o a1 h).bind fun v1 =>
  if v1 = 0 then (
    bind2 (f_X4_fails o (1 : Int32) h) fun v3 h4 =>
    some ((v3, h4))
  ) else (
    (f_X4_in a2 (0 : Int32) (6 : Int32)).bind fun v5 =>
    if v5 = 0 then (
      bind2 (f_X4_fails o (2 : Int32) h) fun v7 h8 =>
      some ((v7, h8))
    ) else (
      (f_X4_value o a1 a2 h).bind fun v9 =>
      bind2 (f_X4_tells o v9 h) fun v10 h11 =>
      some ((v10, h11))
    )
  )
theorem rc_X4_triple {o : Nat} {a1 : Int32} {a2 : Int32} {h : Hp} {z} (hf : f_X4_triple o a1 a2 h = some z) : rc 4 h o = some () := by
  unfold f_X4_triple at hf
  exact (bsome hf).choose_spec.1
set_option maxHeartbeats 2000000 in
set_option maxRecDepth 20000 in
theorem M_X4_triple {g : GT} {o : Nat} {a1 : Int32} {a2 : Int32} {h : Hp} {r : Int32} {h2 : Hp} (hf : f_X4_triple o a1 a2 h = some (r, h2)) : CM g yX4_triple cX4_triple 3 (some .int) 8 0 0 [.ref o, .int a1, .int a2] h (.inr (some (.int r))) h2 := by
  refine CM_of rfl (fun _ => Nat.le_of_ble_eq_true rfl) (fun Γ C hn0 => ?_)
  have C : Cx g Γ cX4_triple RX4 "triple" 3 (some .int) 8 0 0 := C
  generalize hQ : Qe g Γ (.inr (some (.int r))) h2 0 0 = Q
  show U g Γ 3 Q 0 0 0 [(0, .ref o), (1, .int a1), (2, .int a2)] [] h
  unfold f_X4_triple at hf
  replace hf := (bsome hf).choose_spec.2
  refine U_aload_n (n := 1) 0 C dX4_triple_0 rfl rfl rfl ?_
  refine U_iload_n (n := 2) 1 C dX4_triple_1 rfl rfl ?_
  obtain ⟨v1, ev1, hf⟩ := bsome hf
  refine cv_RX4_176 (n := 5) C dX4_triple_2 (av := [.int a1]) rfl (rc_X4_isTriple ev1) (M_X4_isTriple ev1) (Nat.le_of_ble_eq_true rfl) (Nat.zero_le _) (Nat.zero_le _) (Nat.le_of_ble_eq_true rfl) rfl ?_
  refine U_ifne (tgt := 14) (n := 8) C dX4_triple_5 (by decide) rfl (fun c2 => ?_) (fun c2 => ?_)
  · replace hf := (if_pos c2).symm.trans hf
    refine U_aload_n (n := 9) 0 C dX4_triple_8 rfl rfl rfl ?_
    refine U_iconst (n := 10) (1 : Int32) C dX4_triple_9 kiconst_1 rfl ?_
    obtain ⟨v3, h4, ev3, hf⟩ := bsome2 hf
    refine cv_RX4_113 (n := 13) C dX4_triple_10 (av := [.int (1 : Int32)]) rfl (rc_X4_fails ev3) (M_X4_fails ev3) (Nat.le_of_ble_eq_true rfl) (Nat.zero_le _) (Nat.zero_le _) (Nat.le_of_ble_eq_true rfl) rfl ?_
    obtain ⟨hr1, hr2⟩ := Prod.mk.inj (Option.some.inj hf)
    subst hr1; subst hr2
    subst hQ
    exact U_iret C dX4_triple_13 (Nat.le_refl 0) (Nat.le_refl 0)
  · replace hf := (if_neg c2).symm.trans hf
    refine U_iload_n (n := 15) 2 C dX4_triple_14 rfl rfl ?_
    refine U_iconst (n := 16) (0 : Int32) C dX4_triple_15 kiconst_0 rfl ?_
    refine U_bipush (n := 18) (6 : Int32) C dX4_triple_16 kbipush_6 rfl ?_
    obtain ⟨v5, ev5, hf⟩ := bsome hf
    refine cv_RX4_91 (n := 21) C dX4_triple_18 (av := [.int a2, .int (0 : Int32), .int (6 : Int32)]) rfl (M_X4_in ev5) (Nat.le_of_ble_eq_true rfl) (Nat.zero_le _) (Nat.zero_le _) (Nat.le_of_ble_eq_true rfl) rfl ?_
    refine U_ifeq (tgt := 37) (n := 24) C dX4_triple_21 (by decide) rfl (fun c6 => ?_) (fun c6 => ?_)
    · replace hf := (if_pos c6).symm.trans hf
      refine U_aload_n (n := 38) 0 C dX4_triple_37 rfl rfl rfl ?_
      refine U_iconst (n := 39) (2 : Int32) C dX4_triple_38 kiconst_2 rfl ?_
      obtain ⟨v7, h8, ev7, hf⟩ := bsome2 hf
      refine cv_RX4_113 (n := 42) C dX4_triple_39 (av := [.int (2 : Int32)]) rfl (rc_X4_fails ev7) (M_X4_fails ev7) (Nat.le_of_ble_eq_true rfl) (Nat.zero_le _) (Nat.zero_le _) (Nat.le_of_ble_eq_true rfl) rfl ?_
      obtain ⟨hr1, hr2⟩ := Prod.mk.inj (Option.some.inj hf)
      subst hr1; subst hr2
      subst hQ
      exact U_iret C dX4_triple_42 (Nat.le_refl 0) (Nat.le_refl 0)
    · replace hf := (if_neg c6).symm.trans hf
      refine U_aload_n (n := 25) 0 C dX4_triple_24 rfl rfl rfl ?_
      refine U_aload_n (n := 26) 0 C dX4_triple_25 rfl rfl rfl ?_
      refine U_iload_n (n := 27) 1 C dX4_triple_26 rfl rfl ?_
      refine U_iload_n (n := 28) 2 C dX4_triple_27 rfl rfl ?_
      obtain ⟨v9, ev9, hf⟩ := bsome hf
      refine cv_RX4_179 (n := 31) C dX4_triple_28 (av := [.int a1, .int a2]) rfl (rc_X4_value ev9) (M_X4_value ev9) (Nat.le_of_ble_eq_true rfl) (Nat.zero_le _) (Nat.zero_le _) (Nat.le_of_ble_eq_true rfl) rfl ?_
      obtain ⟨v10, h11, ev10, hf⟩ := bsome2 hf
      refine cv_RX4_67 (n := 34) C dX4_triple_31 (av := [.int v9]) rfl (rc_X4_tells ev10) (M_X4_tells ev10) (Nat.le_of_ble_eq_true rfl) (Nat.zero_le _) (Nat.zero_le _) (Nat.le_of_ble_eq_true rfl) rfl ?_
      refine U_goto (n := 0) (tgt := 42) C dX4_triple_34 (by decide) ?_
      obtain ⟨hr1, hr2⟩ := Prod.mk.inj (Option.some.inj hf)
      subst hr1; subst hr2
      subst hQ
      exact U_iret C dX4_triple_42 (Nat.le_refl 0) (Nat.le_refl 0)
def l_X4_whyRelation_10 (p0 : Nat) (h : Hp) : Nat → Int64 → Int32 → Option Int64
  | 0, _, _ => none
  | fuel + 1, x2, x4 =>
    if (6 : Int32) ≤ x4 then (
      some x2
    ) else (
      (fR 4 16 h p0).bind fun v4 =>
      (fR 4 13 h p0).bind fun v5 =>
      (aI h v5 x4).bind fun v6 =>
      (aJ h v4 v6).bind fun v7 =>
      l_X4_whyRelation_10 p0 h fuel (x2 ||| v7) (x4 + 1)
    )
def f_X4_whyRelation (o : Nat) (a1 : Int32) (h : Hp) : Option (Int64 × Hp) :=
  (rc 4 h o).bind fun _ =>
  (f_X4_looksAt o a1 h).bind fun h2 =>
  (l_X4_whyRelation_10 o h2 FU (0 : Int64) (0 : Int32)).bind fun v8 =>
  some ((v8, h2))
set_option maxHeartbeats 2000000 in
set_option maxRecDepth 20000 in
theorem L_X4_whyRelation_10 {g : GT} {Γ : CT} {Q : State → Prop} {mc ms : Nat} (C : Cx g Γ cX4_whyRelation RX4 "whyRelation" 5 (some .long) 9 mc ms) {p0 : Nat} {h : Hp} : ∀ {fuel : Nat} {x2 : Int64} {x4 : Int32} {y2 : Int64}, l_X4_whyRelation_10 p0 h fuel x2 x4 = some y2 → U g Γ 5 Q 0 0 38 [(2, .long y2)] [] h → U g Γ 5 Q 0 0 10 [(0, .ref p0), (2, .long x2), (4, .int x4)] [] h := by
  intro fuel
  induction fuel with
  | zero =>
    intro x2 x4 y2 hf J0
    simp only [l_X4_whyRelation_10, reduceCtorEq] at hf
  | succ fuel ih =>
    intro x2 x4 y2 hf J0
    rw [l_X4_whyRelation_10] at hf
    refine U_iload (n := 12) 2 C dX4_whyRelation_10 rfl rfl ?_
    refine U_bipush (n := 14) (6 : Int32) C dX4_whyRelation_12 kbipush_6 rfl ?_
    refine U_icge (tgt := 38) (n := 17) C dX4_whyRelation_14 (by decide) rfl (fun c3 => ?_) (fun c3 => ?_)
    · replace hf := (if_pos c3).symm.trans hf
      have hr := Option.some.inj hf
      subst hr
      exact U_lv [1] rfl J0
    · replace hf := (if_neg c3).symm.trans hf
      refine U_lload_n (n := 18) 1 C dX4_whyRelation_17 rfl rfl ?_
      refine U_aload_n (n := 19) 0 C dX4_whyRelation_18 rfl rfl rfl ?_
      refine gf_RX4_40 (n := 22) C dX4_whyRelation_19 hf rfl (fun v4 hf => ?_)
      refine U_aload_n (n := 23) 0 C dX4_whyRelation_22 rfl rfl rfl ?_
      refine gf_RX4_31 (n := 26) C dX4_whyRelation_23 hf rfl (fun v5 hf => ?_)
      refine U_iload (n := 28) 2 C dX4_whyRelation_26 rfl rfl ?_
      refine U_iald (n := 29) C dX4_whyRelation_28 hf rfl (fun v6 hf => ?_)
      refine U_lald (n := 30) C dX4_whyRelation_29 hf rfl (fun v7 hf => ?_)
      refine U_lor (n := 31) C dX4_whyRelation_30 rfl ?_
      refine U_lstore_n (n := 32) (lv2 := [(2, .long (x2 ||| v7)), (0, .ref p0), (4, .int x4)]) C dX4_whyRelation_31 (by decide) rfl rfl ?_
      refine U_iinc (n := 35) (v := (x4 + 1)) (lv2 := [(4, .int (x4 + 1)), (2, .long (x2 ||| v7)), (0, .ref p0)]) 2 C dX4_whyRelation_32 rfl rfl (by decide) rfl rfl ?_
      refine U_goto (n := 0) (tgt := 10) C dX4_whyRelation_35 (by decide) ?_
      exact U_lv [2, 1, 0] rfl (ih hf J0)
theorem rc_X4_whyRelation {o : Nat} {a1 : Int32} {h : Hp} {z} (hf : f_X4_whyRelation o a1 h = some z) : rc 4 h o = some () := by
  unfold f_X4_whyRelation at hf
  exact (bsome hf).choose_spec.1
set_option maxHeartbeats 2000000 in
set_option maxRecDepth 20000 in
theorem M_X4_whyRelation {g : GT} {o : Nat} {a1 : Int32} {h : Hp} {r : Int64} {h2 : Hp} (hf : f_X4_whyRelation o a1 h = some (r, h2)) : CM g yX4_whyRelation cX4_whyRelation 5 (some .long) 9 0 0 [.ref o, .int a1] h (.inr (some (.long r))) h2 := by
  refine CM_of rfl (fun _ => Nat.le_of_ble_eq_true rfl) (fun Γ C hn0 => ?_)
  have C : Cx g Γ cX4_whyRelation RX4 "whyRelation" 5 (some .long) 9 0 0 := C
  generalize hQ : Qe g Γ (.inr (some (.long r))) h2 0 0 = Q
  show U g Γ 5 Q 0 0 0 [(0, .ref o), (1, .int a1)] [] h
  unfold f_X4_whyRelation at hf
  replace hf := (bsome hf).choose_spec.2
  refine U_aload_n (n := 1) 0 C dX4_whyRelation_0 rfl rfl rfl ?_
  refine U_iload_n (n := 2) 1 C dX4_whyRelation_1 rfl rfl ?_
  obtain ⟨h2, ev1, hf⟩ := bsome hf
  refine cv_RX4_152 (n := 5) C dX4_whyRelation_2 (av := [.int a1]) rfl (rc_X4_looksAt ev1) (M_X4_looksAt ev1) (Nat.le_of_ble_eq_true rfl) (Nat.zero_le _) (Nat.zero_le _) (Nat.le_of_ble_eq_true rfl) rfl ?_
  refine U_lconst (n := 6) (0 : Int64) C dX4_whyRelation_5 klconst_0 rfl ?_
  refine U_lstore_n (n := 7) (lv2 := [(2, .long (0 : Int64)), (0, .ref o), (1, .int a1)]) C dX4_whyRelation_6 (by decide) rfl rfl ?_
  refine U_iconst (n := 8) (0 : Int32) C dX4_whyRelation_7 kiconst_0 rfl ?_
  refine U_istore (n := 10) (lv2 := [(4, .int (0 : Int32)), (2, .long (0 : Int64)), (0, .ref o), (1, .int a1)]) C dX4_whyRelation_8 (by decide) rfl rfl ?_
  refine U_join1 (fun v8 => U g Γ 5 Q 0 0 38 [(2, .long v8)] [] h2) hf (fun v8 hf => ?_) (fun v8 hf J => U_lv [2, 1, 0] rfl (L_X4_whyRelation_10 C hf J))
  refine U_lload_n (n := 39) 0 C dX4_whyRelation_38 rfl rfl ?_
  obtain ⟨hr1, hr2⟩ := Prod.mk.inj (Option.some.inj hf)
  subst hr1; subst hr2
  subst hQ
  exact U_lret C dX4_whyRelation_39 (Nat.le_refl 0) (Nat.le_refl 0)
def l_X4_laysReasons_2 (p0 : Nat) : Nat → Int32 → Hp → Option Hp
  | 0, _, _ => none
  | fuel + 1, x1, h =>
    (fI 4 9 h p0).bind fun v1 =>
    if v1 ≤ x1 then (
      some h
    ) else (
      (fR 4 16 h p0).bind fun v3 =>
      (f_X4_get p0 x1 (1 : Int32) h).bind fun v4 =>
      (
        if v4 = (1 : Int32) then (
          some (((1 : Int64) <<< ((x1).toInt64 &&& 63)))
        ) else (
          some ((0 : Int64))
        )
      ).bind fun v6 =>
      (wJ h v3 x1 v6).bind fun h10 =>
      l_X4_laysReasons_2 p0 fuel (x1 + 1) h10
    )
def l_X4_laysReasons_54 (p0 : Nat) (p2 : Int32) : Nat → Int32 → Hp → Option Hp
  | 0, _, _ => none
  | fuel + 1, x3, h =>
    (fI 4 9 h p0).bind fun v14 =>
    if v14 ≤ x3 then (
      some h
    ) else (
      (f_X4_get p0 x3 (3 : Int32) h).bind fun v16 =>
      (
        if v16 = p2 then (
          (fR 4 16 h p0).bind fun v22 =>
          (f_X4_get p0 x3 (2 : Int32) h).bind fun v23 =>
          bind2 (f_X4_whyRelation p0 v23 h) fun v24 h25 =>
          (wJ h25 v22 x3 v24).bind fun h26 =>
          some h26
        ) else (
          some h
        )
      ).bind fun h18 =>
      l_X4_laysReasons_54 p0 p2 fuel (x3 + 1) h18
    )
def l_X4_laysReasons_47 (p0 : Nat) (p1 : Int32) : Nat → Int32 → Hp → Option Hp
  | 0, _, _ => none
  | fuel + 1, x2, h =>
    if p1 < x2 then (
      some h
    ) else (
      (l_X4_laysReasons_54 p0 x2 FU (0 : Int32) h).bind fun h27 =>
      l_X4_laysReasons_47 p0 p1 fuel (x2 + 1) h27
    )
def f_X4_laysReasons (o : Nat) (h : Hp) : Option Hp :=
  (rc 4 h o).bind fun _ =>
  (l_X4_laysReasons_2 o FU (0 : Int32) h).bind fun h11 =>
  (f_X4_many o (2 : Int32) h11).bind fun v12 =>
  (l_X4_laysReasons_47 o v12 FU (1 : Int32) h11).bind fun h28 =>
  some (h28)
set_option maxHeartbeats 2000000 in
set_option maxRecDepth 20000 in
theorem L_X4_laysReasons_2 {g : GT} {Γ : CT} {Q : State → Prop} {mc ms : Nat} (C : Cx g Γ cX4_laysReasons RX4 "laysReasons" 4 none 10 mc ms) {p0 : Nat} : ∀ {fuel : Nat} {x1 : Int32} {h : Hp} {hy : Hp}, l_X4_laysReasons_2 p0 fuel x1 h = some hy → U g Γ 4 Q 0 0 39 [(0, .ref p0)] [] hy → U g Γ 4 Q 0 0 2 [(0, .ref p0), (1, .int x1)] [] h := by
  intro fuel
  induction fuel with
  | zero =>
    intro x1 h hy hf J0
    simp only [l_X4_laysReasons_2, reduceCtorEq] at hf
  | succ fuel ih =>
    intro x1 h hy hf J0
    rw [l_X4_laysReasons_2] at hf
    refine U_iload_n (n := 3) 1 C dX4_laysReasons_2 rfl rfl ?_
    refine U_aload_n (n := 4) 0 C dX4_laysReasons_3 rfl rfl rfl ?_
    refine gf_RX4_71 (n := 7) C dX4_laysReasons_4 hf rfl (fun v1 hf => ?_)
    refine U_icge (tgt := 39) (n := 10) C dX4_laysReasons_7 (by decide) rfl (fun c2 => ?_) (fun c2 => ?_)
    · replace hf := (if_pos c2).symm.trans hf
      have hr := Option.some.inj hf
      subst hr
      exact U_lv [0] rfl J0
    · replace hf := (if_neg c2).symm.trans hf
      refine U_aload_n (n := 11) 0 C dX4_laysReasons_10 rfl rfl rfl ?_
      refine gf_RX4_40 (n := 14) C dX4_laysReasons_11 hf rfl (fun v3 hf => ?_)
      refine U_iload_n (n := 15) 1 C dX4_laysReasons_14 rfl rfl ?_
      refine U_aload_n (n := 16) 0 C dX4_laysReasons_15 rfl rfl rfl ?_
      refine U_iload_n (n := 17) 1 C dX4_laysReasons_16 rfl rfl ?_
      refine U_iconst (n := 18) (1 : Int32) C dX4_laysReasons_17 kiconst_1 rfl ?_
      obtain ⟨v4, ev4, hf⟩ := bsome hf
      refine cv_RX4_106 (n := 21) C dX4_laysReasons_18 (av := [.int x1, .int (1 : Int32)]) rfl (rc_X4_get ev4) (M_X4_get ev4) (Nat.le_of_ble_eq_true rfl) (Nat.zero_le _) (Nat.zero_le _) (Nat.le_of_ble_eq_true rfl) rfl ?_
      refine U_iconst (n := 22) (1 : Int32) C dX4_laysReasons_21 kiconst_1 rfl ?_
      refine U_join1 (fun v6 => U g Γ 4 Q 0 0 32 [(0, .ref p0), (1, .int x1)] [.long v6, .int x1, .ref v3] h) hf (fun v6 hf => ?_) (fun v6 hf J8 => ?_)
      · skip
        refine U_last (n := 33) C dX4_laysReasons_32 hf rfl (fun h10 hf => ?_)
        refine U_iinc (n := 36) (v := (x1 + 1)) (lv2 := [(1, .int (x1 + 1)), (0, .ref p0)]) 1 C dX4_laysReasons_33 rfl rfl (by decide) rfl rfl ?_
        refine U_goto (n := 0) (tgt := 2) C dX4_laysReasons_36 (by decide) ?_
        exact U_lv [1, 0] rfl (ih hf J0)
      · skip
        refine U_icne (tgt := 31) (n := 25) C dX4_laysReasons_22 (by decide) rfl (fun c5 => ?_) (fun c5 => ?_)
        · replace hf := (if_pos c5).symm.trans hf
          refine U_lconst (n := 26) (1 : Int64) C dX4_laysReasons_25 klconst_1 rfl ?_
          refine U_iload_n (n := 27) 1 C dX4_laysReasons_26 rfl rfl ?_
          refine U_lshl (n := 28) C dX4_laysReasons_27 rfl ?_
          refine U_goto (n := 0) (tgt := 32) C dX4_laysReasons_28 (by decide) ?_
          have hr := Option.some.inj hf
          subst hr
          exact U_lv [0, 1] rfl J8
        · replace hf := (if_neg c5).symm.trans hf
          refine U_lconst (n := 32) (0 : Int64) C dX4_laysReasons_31 klconst_0 rfl ?_
          have hr := Option.some.inj hf
          subst hr
          exact U_lv [0, 1] rfl J8
set_option maxHeartbeats 2000000 in
set_option maxRecDepth 20000 in
theorem L_X4_laysReasons_54 {g : GT} {Γ : CT} {Q : State → Prop} {mc ms : Nat} (C : Cx g Γ cX4_laysReasons RX4 "laysReasons" 4 none 10 mc ms) {p0 : Nat} {p1 : Int32} {p2 : Int32} : ∀ {fuel : Nat} {x3 : Int32} {h : Hp} {hy : Hp}, l_X4_laysReasons_54 p0 p2 fuel x3 h = some hy → U g Γ 4 Q 0 0 94 [(0, .ref p0), (1, .int p1), (2, .int p2)] [] hy → U g Γ 4 Q 0 0 54 [(0, .ref p0), (1, .int p1), (2, .int p2), (3, .int x3)] [] h := by
  intro fuel
  induction fuel with
  | zero =>
    intro x3 h hy hf J0
    simp only [l_X4_laysReasons_54, reduceCtorEq] at hf
  | succ fuel ih =>
    intro x3 h hy hf J0
    rw [l_X4_laysReasons_54] at hf
    refine U_iload_n (n := 55) 3 C dX4_laysReasons_54 rfl rfl ?_
    refine U_aload_n (n := 56) 0 C dX4_laysReasons_55 rfl rfl rfl ?_
    refine gf_RX4_71 (n := 59) C dX4_laysReasons_56 hf rfl (fun v14 hf => ?_)
    refine U_icge (tgt := 94) (n := 62) C dX4_laysReasons_59 (by decide) rfl (fun c15 => ?_) (fun c15 => ?_)
    · replace hf := (if_pos c15).symm.trans hf
      have hr := Option.some.inj hf
      subst hr
      exact U_lv [0, 1, 2] rfl J0
    · replace hf := (if_neg c15).symm.trans hf
      refine U_aload_n (n := 63) 0 C dX4_laysReasons_62 rfl rfl rfl ?_
      refine U_iload_n (n := 64) 3 C dX4_laysReasons_63 rfl rfl ?_
      refine U_iconst (n := 65) (3 : Int32) C dX4_laysReasons_64 kiconst_3 rfl ?_
      obtain ⟨v16, ev16, hf⟩ := bsome hf
      refine cv_RX4_106 (n := 68) C dX4_laysReasons_65 (av := [.int x3, .int (3 : Int32)]) rfl (rc_X4_get ev16) (M_X4_get ev16) (Nat.le_of_ble_eq_true rfl) (Nat.zero_le _) (Nat.zero_le _) (Nat.le_of_ble_eq_true rfl) rfl ?_
      refine U_iload_n (n := 69) 2 C dX4_laysReasons_68 rfl rfl ?_
      refine U_join1 (fun h18 => U g Γ 4 Q 0 0 88 [(0, .ref p0), (1, .int p1), (2, .int p2), (3, .int x3)] [] h18) hf (fun h18 hf => ?_) (fun h18 hf J20 => ?_)
      · skip
        refine U_iinc (n := 91) (v := (x3 + 1)) (lv2 := [(3, .int (x3 + 1)), (0, .ref p0), (1, .int p1), (2, .int p2)]) 3 C dX4_laysReasons_88 rfl rfl (by decide) rfl rfl ?_
        refine U_goto (n := 0) (tgt := 54) C dX4_laysReasons_91 (by decide) ?_
        exact U_lv [1, 2, 3, 0] rfl (ih hf J0)
      · skip
        refine U_icne (tgt := 88) (n := 72) C dX4_laysReasons_69 (by decide) rfl (fun c17 => ?_) (fun c17 => ?_)
        · replace hf := (if_pos c17).symm.trans hf
          refine U_aload_n (n := 73) 0 C dX4_laysReasons_72 rfl rfl rfl ?_
          refine gf_RX4_40 (n := 76) C dX4_laysReasons_73 hf rfl (fun v22 hf => ?_)
          refine U_iload_n (n := 77) 3 C dX4_laysReasons_76 rfl rfl ?_
          refine U_aload_n (n := 78) 0 C dX4_laysReasons_77 rfl rfl rfl ?_
          refine U_aload_n (n := 79) 0 C dX4_laysReasons_78 rfl rfl rfl ?_
          refine U_iload_n (n := 80) 3 C dX4_laysReasons_79 rfl rfl ?_
          refine U_iconst (n := 81) (2 : Int32) C dX4_laysReasons_80 kiconst_2 rfl ?_
          obtain ⟨v23, ev23, hf⟩ := bsome hf
          refine cv_RX4_106 (n := 84) C dX4_laysReasons_81 (av := [.int x3, .int (2 : Int32)]) rfl (rc_X4_get ev23) (M_X4_get ev23) (Nat.le_of_ble_eq_true rfl) (Nat.zero_le _) (Nat.zero_le _) (Nat.le_of_ble_eq_true rfl) rfl ?_
          obtain ⟨v24, h25, ev24, hf⟩ := bsome2 hf
          refine cv_RX4_182 (n := 87) C dX4_laysReasons_84 (av := [.int v23]) rfl (rc_X4_whyRelation ev24) (M_X4_whyRelation ev24) (Nat.le_of_ble_eq_true rfl) (Nat.zero_le _) (Nat.zero_le _) (Nat.le_of_ble_eq_true rfl) rfl ?_
          refine U_last (n := 88) C dX4_laysReasons_87 hf rfl (fun h26 hf => ?_)
          have hr := Option.some.inj hf
          subst hr
          exact U_lv [0, 1, 2, 3] rfl J20
        · replace hf := (if_neg c17).symm.trans hf
          have hr := Option.some.inj hf
          subst hr
          exact U_lv [0, 1, 2, 3] rfl J20
set_option maxHeartbeats 2000000 in
set_option maxRecDepth 20000 in
theorem L_X4_laysReasons_47 {g : GT} {Γ : CT} {Q : State → Prop} {mc ms : Nat} (C : Cx g Γ cX4_laysReasons RX4 "laysReasons" 4 none 10 mc ms) {p0 : Nat} {p1 : Int32} : ∀ {fuel : Nat} {x2 : Int32} {h : Hp} {hy : Hp}, l_X4_laysReasons_47 p0 p1 fuel x2 h = some hy → U g Γ 4 Q 0 0 100 [] [] hy → U g Γ 4 Q 0 0 47 [(0, .ref p0), (1, .int p1), (2, .int x2)] [] h := by
  intro fuel
  induction fuel with
  | zero =>
    intro x2 h hy hf J0
    simp only [l_X4_laysReasons_47, reduceCtorEq] at hf
  | succ fuel ih =>
    intro x2 h hy hf J0
    rw [l_X4_laysReasons_47] at hf
    refine U_iload_n (n := 48) 2 C dX4_laysReasons_47 rfl rfl ?_
    refine U_iload_n (n := 49) 1 C dX4_laysReasons_48 rfl rfl ?_
    refine U_icgt (tgt := 100) (n := 52) C dX4_laysReasons_49 (by decide) rfl (fun c13 => ?_) (fun c13 => ?_)
    · replace hf := (if_pos c13).symm.trans hf
      have hr := Option.some.inj hf
      subst hr
      exact U_lv [] rfl J0
    · replace hf := (if_neg c13).symm.trans hf
      refine U_iconst (n := 53) (0 : Int32) C dX4_laysReasons_52 kiconst_0 rfl ?_
      refine U_istore_n (n := 54) (lv2 := [(3, .int (0 : Int32)), (0, .ref p0), (1, .int p1), (2, .int x2)]) C dX4_laysReasons_53 (by decide) rfl rfl ?_
      refine U_join1 (fun h27 => U g Γ 4 Q 0 0 94 [(0, .ref p0), (1, .int p1), (2, .int x2)] [] h27) hf (fun h27 hf => ?_) (fun h27 hf J => U_lv [1, 2, 3, 0] rfl (L_X4_laysReasons_54 C hf J))
      refine U_iinc (n := 97) (v := (x2 + 1)) (lv2 := [(2, .int (x2 + 1)), (0, .ref p0), (1, .int p1)]) 2 C dX4_laysReasons_94 rfl rfl (by decide) rfl rfl ?_
      refine U_goto (n := 0) (tgt := 47) C dX4_laysReasons_97 (by decide) ?_
      exact U_lv [1, 2, 0] rfl (ih hf J0)
theorem rc_X4_laysReasons {o : Nat} {h : Hp} {z} (hf : f_X4_laysReasons o h = some z) : rc 4 h o = some () := by
  unfold f_X4_laysReasons at hf
  exact (bsome hf).choose_spec.1
set_option maxHeartbeats 2000000 in
set_option maxRecDepth 20000 in
theorem M_X4_laysReasons {g : GT} {o : Nat} {h : Hp} {h2 : Hp} (hf : f_X4_laysReasons o h = some h2) : CM g yX4_laysReasons cX4_laysReasons 4 none 10 0 0 [.ref o] h (.inr none) h2 := by
  refine CM_of rfl (fun _ => Nat.le_of_ble_eq_true rfl) (fun Γ C hn0 => ?_)
  have C : Cx g Γ cX4_laysReasons RX4 "laysReasons" 4 none 10 0 0 := C
  generalize hQ : Qe g Γ (.inr none) h2 0 0 = Q
  show U g Γ 4 Q 0 0 0 [(0, .ref o)] [] h
  unfold f_X4_laysReasons at hf
  replace hf := (bsome hf).choose_spec.2
  refine U_iconst (n := 1) (0 : Int32) C dX4_laysReasons_0 kiconst_0 rfl ?_
  refine U_istore_n (n := 2) (lv2 := [(1, .int (0 : Int32)), (0, .ref o)]) C dX4_laysReasons_1 (by decide) rfl rfl ?_
  refine U_join1 (fun h11 => U g Γ 4 Q 0 0 39 [(0, .ref o)] [] h11) hf (fun h11 hf => ?_) (fun h11 hf J => U_lv [1, 0] rfl (L_X4_laysReasons_2 C hf J))
  refine U_aload_n (n := 40) 0 C dX4_laysReasons_39 rfl rfl rfl ?_
  refine U_iconst (n := 41) (2 : Int32) C dX4_laysReasons_40 kiconst_2 rfl ?_
  obtain ⟨v12, ev12, hf⟩ := bsome hf
  refine cv_RX4_161 (n := 44) C dX4_laysReasons_41 (av := [.int (2 : Int32)]) rfl (rc_X4_many ev12) (M_X4_many ev12) (Nat.le_of_ble_eq_true rfl) (Nat.zero_le _) (Nat.zero_le _) (Nat.le_of_ble_eq_true rfl) rfl ?_
  refine U_istore_n (n := 45) (lv2 := [(1, .int v12), (0, .ref o)]) C dX4_laysReasons_44 (by decide) rfl rfl ?_
  refine U_iconst (n := 46) (1 : Int32) C dX4_laysReasons_45 kiconst_1 rfl ?_
  refine U_istore_n (n := 47) (lv2 := [(2, .int (1 : Int32)), (1, .int v12), (0, .ref o)]) C dX4_laysReasons_46 (by decide) rfl rfl ?_
  refine U_join1 (fun h28 => U g Γ 4 Q 0 0 100 [] [] h28) hf (fun h28 hf => ?_) (fun h28 hf J => U_lv [2, 1, 0] rfl (L_X4_laysReasons_47 C hf J))
  have hr := (Option.some.inj hf)
  subst hr
  subst hQ
  exact U_vret C dX4_laysReasons_100 (Nat.le_refl 0) (Nat.le_refl 0)
def f_X4_reasons (o : Nat) (a1 : Int32) (h : Hp) : Option (Int64 × Hp) :=
  (rc 4 h o).bind fun _ =>
  (f_X4_isTriple o a1 h).bind fun v1 =>
  if v1 = 0 then (
    bind2 (f_X4_fails o (1 : Int32) h) fun v3 h4 =>
    some (((v3).toInt64, h4))
  ) else (
    (sF 4 6 (.int (0 : Int32)) h o).bind fun h5 =>
    (f_X4_laysReasons o h5).bind fun h7 =>
    (fR 4 16 h7 o).bind fun v8 =>
    (aJ h7 v8 a1).bind fun v9 =>
    some ((v9, h7))
  )
theorem rc_X4_reasons {o : Nat} {a1 : Int32} {h : Hp} {z} (hf : f_X4_reasons o a1 h = some z) : rc 4 h o = some () := by
  unfold f_X4_reasons at hf
  exact (bsome hf).choose_spec.1
set_option maxHeartbeats 2000000 in
set_option maxRecDepth 20000 in
theorem M_X4_reasons {g : GT} {o : Nat} {a1 : Int32} {h : Hp} {r : Int64} {h2 : Hp} (hf : f_X4_reasons o a1 h = some (r, h2)) : CM g yX4_reasons cX4_reasons 2 (some .long) 11 0 0 [.ref o, .int a1] h (.inr (some (.long r))) h2 := by
  refine CM_of rfl (fun _ => Nat.le_of_ble_eq_true rfl) (fun Γ C hn0 => ?_)
  have C : Cx g Γ cX4_reasons RX4 "reasons" 2 (some .long) 11 0 0 := C
  generalize hQ : Qe g Γ (.inr (some (.long r))) h2 0 0 = Q
  show U g Γ 2 Q 0 0 0 [(0, .ref o), (1, .int a1)] [] h
  unfold f_X4_reasons at hf
  replace hf := (bsome hf).choose_spec.2
  refine U_aload_n (n := 1) 0 C dX4_reasons_0 rfl rfl rfl ?_
  refine U_iload_n (n := 2) 1 C dX4_reasons_1 rfl rfl ?_
  obtain ⟨v1, ev1, hf⟩ := bsome hf
  refine cv_RX4_176 (n := 5) C dX4_reasons_2 (av := [.int a1]) rfl (rc_X4_isTriple ev1) (M_X4_isTriple ev1) (Nat.le_of_ble_eq_true rfl) (Nat.zero_le _) (Nat.zero_le _) (Nat.le_of_ble_eq_true rfl) rfl ?_
  refine U_ifne (tgt := 15) (n := 8) C dX4_reasons_5 (by decide) rfl (fun c2 => ?_) (fun c2 => ?_)
  · replace hf := (if_pos c2).symm.trans hf
    refine U_aload_n (n := 9) 0 C dX4_reasons_8 rfl rfl rfl ?_
    refine U_iconst (n := 10) (1 : Int32) C dX4_reasons_9 kiconst_1 rfl ?_
    obtain ⟨v3, h4, ev3, hf⟩ := bsome2 hf
    refine cv_RX4_113 (n := 13) C dX4_reasons_10 (av := [.int (1 : Int32)]) rfl (rc_X4_fails ev3) (M_X4_fails ev3) (Nat.le_of_ble_eq_true rfl) (Nat.zero_le _) (Nat.zero_le _) (Nat.le_of_ble_eq_true rfl) rfl ?_
    refine U_i2l (n := 14) C dX4_reasons_13 rfl ?_
    obtain ⟨hr1, hr2⟩ := Prod.mk.inj (Option.some.inj hf)
    subst hr1; subst hr2
    subst hQ
    exact U_lret C dX4_reasons_14 (Nat.le_refl 0) (Nat.le_refl 0)
  · replace hf := (if_neg c2).symm.trans hf
    refine U_aload_n (n := 16) 0 C dX4_reasons_15 rfl rfl rfl ?_
    refine U_iconst (n := 17) (0 : Int32) C dX4_reasons_16 kiconst_0 rfl ?_
    refine pf_RX4_60 (n := 20) C dX4_reasons_17 hf rfl (fun h5 hf => ?_)
    refine U_aload_n (n := 21) 0 C dX4_reasons_20 rfl rfl rfl ?_
    obtain ⟨h7, ev6, hf⟩ := bsome hf
    refine cv_RX4_186 (n := 24) C dX4_reasons_21 (av := []) rfl (rc_X4_laysReasons ev6) (M_X4_laysReasons ev6) (Nat.le_of_ble_eq_true rfl) (Nat.zero_le _) (Nat.zero_le _) (Nat.le_of_ble_eq_true rfl) rfl ?_
    refine U_aload_n (n := 25) 0 C dX4_reasons_24 rfl rfl rfl ?_
    refine gf_RX4_40 (n := 28) C dX4_reasons_25 hf rfl (fun v8 hf => ?_)
    refine U_iload_n (n := 29) 1 C dX4_reasons_28 rfl rfl ?_
    refine U_lald (n := 30) C dX4_reasons_29 hf rfl (fun v9 hf => ?_)
    obtain ⟨hr1, hr2⟩ := Prod.mk.inj (Option.some.inj hf)
    subst hr1; subst hr2
    subst hQ
    exact U_lret C dX4_reasons_30 (Nat.le_refl 0) (Nat.le_refl 0)
def f_X4_state (o : Nat) (a1 : Int32) (h : Hp) : Option (Int32 × Hp) :=
  (rc 4 h o).bind fun _ =>
  (f_X4_looksAt o a1 h).bind fun h2 =>
  (f_X4_unknowns o h2).bind fun v3 =>
  if v3 ≤ 0 then (
    (f_X4_isFulfilled o (0 : Int32) h2).bind fun v5 =>
    if v5 = 0 then (
      some (((-1 : Int32), h2))
    ) else (
      some (((1 : Int32), h2))
    )
  ) else (
    some (((0 : Int32), h2))
  )
theorem rc_X4_state {o : Nat} {a1 : Int32} {h : Hp} {z} (hf : f_X4_state o a1 h = some z) : rc 4 h o = some () := by
  unfold f_X4_state at hf
  exact (bsome hf).choose_spec.1
set_option maxHeartbeats 2000000 in
set_option maxRecDepth 20000 in
theorem M_X4_state {g : GT} {o : Nat} {a1 : Int32} {h : Hp} {r : Int32} {h2 : Hp} (hf : f_X4_state o a1 h = some (r, h2)) : CM g yX4_state cX4_state 2 (some .int) 9 0 0 [.ref o, .int a1] h (.inr (some (.int r))) h2 := by
  refine CM_of rfl (fun _ => Nat.le_of_ble_eq_true rfl) (fun Γ C hn0 => ?_)
  have C : Cx g Γ cX4_state RX4 "state" 2 (some .int) 9 0 0 := C
  generalize hQ : Qe g Γ (.inr (some (.int r))) h2 0 0 = Q
  show U g Γ 2 Q 0 0 0 [(0, .ref o), (1, .int a1)] [] h
  unfold f_X4_state at hf
  replace hf := (bsome hf).choose_spec.2
  refine U_aload_n (n := 1) 0 C dX4_state_0 rfl rfl rfl ?_
  refine U_iload_n (n := 2) 1 C dX4_state_1 rfl rfl ?_
  obtain ⟨h2, ev1, hf⟩ := bsome hf
  refine cv_RX4_152 (n := 5) C dX4_state_2 (av := [.int a1]) rfl (rc_X4_looksAt ev1) (M_X4_looksAt ev1) (Nat.le_of_ble_eq_true rfl) (Nat.zero_le _) (Nat.zero_le _) (Nat.le_of_ble_eq_true rfl) rfl ?_
  refine U_aload_n (n := 6) 0 C dX4_state_5 rfl rfl rfl ?_
  obtain ⟨v3, ev3, hf⟩ := bsome hf
  refine cv_RX4_155 (n := 9) C dX4_state_6 (av := []) rfl (rc_X4_unknowns ev3) (M_X4_unknowns ev3) (Nat.le_of_ble_eq_true rfl) (Nat.zero_le _) (Nat.zero_le _) (Nat.le_of_ble_eq_true rfl) rfl ?_
  refine U_ifle (tgt := 16) (n := 12) C dX4_state_9 (by decide) rfl (fun c4 => ?_) (fun c4 => ?_)
  · replace hf := (if_pos c4).symm.trans hf
    refine U_aload_n (n := 17) 0 C dX4_state_16 rfl rfl rfl ?_
    refine U_iconst (n := 18) (0 : Int32) C dX4_state_17 kiconst_0 rfl ?_
    obtain ⟨v5, ev5, hf⟩ := bsome hf
    refine cv_RX4_158 (n := 21) C dX4_state_18 (av := [.int (0 : Int32)]) rfl (rc_X4_isFulfilled ev5) (M_X4_isFulfilled ev5) (Nat.le_of_ble_eq_true rfl) (Nat.zero_le _) (Nat.zero_le _) (Nat.le_of_ble_eq_true rfl) rfl ?_
    refine U_ifeq (tgt := 28) (n := 24) C dX4_state_21 (by decide) rfl (fun c6 => ?_) (fun c6 => ?_)
    · replace hf := (if_pos c6).symm.trans hf
      refine U_iconst (n := 29) (-1 : Int32) C dX4_state_28 kiconst_m1 rfl ?_
      obtain ⟨hr1, hr2⟩ := Prod.mk.inj (Option.some.inj hf)
      subst hr1; subst hr2
      subst hQ
      exact U_iret C dX4_state_29 (Nat.le_refl 0) (Nat.le_refl 0)
    · replace hf := (if_neg c6).symm.trans hf
      refine U_iconst (n := 25) (1 : Int32) C dX4_state_24 kiconst_1 rfl ?_
      refine U_goto (n := 0) (tgt := 29) C dX4_state_25 (by decide) ?_
      obtain ⟨hr1, hr2⟩ := Prod.mk.inj (Option.some.inj hf)
      subst hr1; subst hr2
      subst hQ
      exact U_iret C dX4_state_29 (Nat.le_refl 0) (Nat.le_refl 0)
  · replace hf := (if_neg c4).symm.trans hf
    refine U_iconst (n := 13) (0 : Int32) C dX4_state_12 kiconst_0 rfl ?_
    refine U_goto (n := 0) (tgt := 29) C dX4_state_13 (by decide) ?_
    obtain ⟨hr1, hr2⟩ := Prod.mk.inj (Option.some.inj hf)
    subst hr1; subst hr2
    subst hQ
    exact U_iret C dX4_state_29 (Nat.le_refl 0) (Nat.le_refl 0)
def l_X4_stated_4 (p0 : Nat) (p1 : Int32) : Nat → Int32 → Int32 → Hp → Option (Int32 × Hp)
  | 0, _, _, _ => none
  | fuel + 1, x2, x3, h =>
    (fI 4 11 h p0).bind fun v1 =>
    if v1 ≤ x3 then (
      some ((x2, h))
    ) else (
      bind2 (f_X4_state p0 x3 h) fun v3 h4 =>
      (
        if v3 = (-1 : Int32) then (
          some ((1 : Int32))
        ) else (
          if v3 = (1 : Int32) then (
            if p1 = 0 then (
              some ((1 : Int32))
            ) else (
              some ((0 : Int32))
            )
          ) else (
            some ((0 : Int32))
          )
        )
      ).bind fun v6 =>
      l_X4_stated_4 p0 p1 fuel (x2 + v6) (x3 + 1) h4
    )
def f_X4_stated (o : Nat) (a1 : Int32) (h : Hp) : Option (Int32 × Hp) :=
  (rc 4 h o).bind fun _ =>
  bind2 (l_X4_stated_4 o a1 FU (0 : Int32) (0 : Int32) h) fun v12 h13 =>
  some ((v12, h13))
set_option maxHeartbeats 2000000 in
set_option maxRecDepth 20000 in
theorem L_X4_stated_4 {g : GT} {Γ : CT} {Q : State → Prop} {mc ms : Nat} (C : Cx g Γ cX4_stated RX4 "stated" 5 (some .int) 10 mc ms) {p0 : Nat} {p1 : Int32} : ∀ {fuel : Nat} {x2 : Int32} {x3 : Int32} {h : Hp} {y2 : Int32} {hy : Hp}, l_X4_stated_4 p0 p1 fuel x2 x3 h = some (y2, hy) → U g Γ 5 Q 0 0 49 [(2, .int y2)] [] hy → U g Γ 5 Q 0 0 4 [(0, .ref p0), (1, .int p1), (2, .int x2), (3, .int x3)] [] h := by
  intro fuel
  induction fuel with
  | zero =>
    intro x2 x3 h y2 hy hf J0
    simp only [l_X4_stated_4, reduceCtorEq] at hf
  | succ fuel ih =>
    intro x2 x3 h y2 hy hf J0
    rw [l_X4_stated_4] at hf
    refine U_iload_n (n := 5) 3 C dX4_stated_4 rfl rfl ?_
    refine U_aload_n (n := 6) 0 C dX4_stated_5 rfl rfl rfl ?_
    refine gf_RX4_74 (n := 9) C dX4_stated_6 hf rfl (fun v1 hf => ?_)
    refine U_icge (tgt := 49) (n := 12) C dX4_stated_9 (by decide) rfl (fun c2 => ?_) (fun c2 => ?_)
    · replace hf := (if_pos c2).symm.trans hf
      obtain ⟨hr0, hs0⟩ := Prod.mk.inj (Option.some.inj hf)
      subst hr0
      subst hs0
      exact U_lv [2] rfl J0
    · replace hf := (if_neg c2).symm.trans hf
      refine U_aload_n (n := 13) 0 C dX4_stated_12 rfl rfl rfl ?_
      refine U_iload_n (n := 14) 3 C dX4_stated_13 rfl rfl ?_
      obtain ⟨v3, h4, ev3, hf⟩ := bsome2 hf
      refine cv_RX4_189 (n := 17) C dX4_stated_14 (av := [.int x3]) rfl (rc_X4_state ev3) (M_X4_state ev3) (Nat.le_of_ble_eq_true rfl) (Nat.zero_le _) (Nat.zero_le _) (Nat.le_of_ble_eq_true rfl) rfl ?_
      refine U_istore (n := 19) (lv2 := [(4, .int v3), (0, .ref p0), (1, .int p1), (2, .int x2), (3, .int x3)]) C dX4_stated_17 (by decide) rfl rfl ?_
      refine U_iload_n (n := 20) 3 C dX4_stated_19 rfl rfl ?_
      refine U_iload (n := 22) 0 C dX4_stated_20 rfl rfl ?_
      refine U_iconst (n := 23) (-1 : Int32) C dX4_stated_22 kiconst_m1 rfl ?_
      refine U_join1 (fun v6 => U g Γ 5 Q 0 0 41 [(0, .ref p0), (1, .int p1), (3, .int x3)] [.int v6, .int x2] h4) hf (fun v6 hf => ?_) (fun v6 hf J8 => ?_)
      · skip
        refine U_iadd (n := 42) C dX4_stated_41 rfl ?_
        refine U_istore_n (n := 43) (lv2 := [(2, .int (x2 + v6)), (0, .ref p0), (1, .int p1), (3, .int x3)]) C dX4_stated_42 (by decide) rfl rfl ?_
        refine U_iinc (n := 46) (v := (x3 + 1)) (lv2 := [(3, .int (x3 + 1)), (2, .int (x2 + v6)), (0, .ref p0), (1, .int p1)]) 3 C dX4_stated_43 rfl rfl (by decide) rfl rfl ?_
        refine U_goto (n := 0) (tgt := 4) C dX4_stated_46 (by decide) ?_
        exact U_lv [2, 3, 1, 0] rfl (ih hf J0)
      · skip
        refine U_iceq (tgt := 36) (n := 26) C dX4_stated_23 (by decide) rfl (fun c5 => ?_) (fun c5 => ?_)
        · replace hf := (if_pos c5).symm.trans hf
          refine U_iconst (n := 37) (1 : Int32) C dX4_stated_36 kiconst_1 rfl ?_
          refine U_goto (n := 0) (tgt := 41) C dX4_stated_37 (by decide) ?_
          have hr := Option.some.inj hf
          subst hr
          exact U_lv [1, 2, 4] rfl J8
        · replace hf := (if_neg c5).symm.trans hf
          refine U_iload (n := 28) 0 C dX4_stated_26 rfl rfl ?_
          refine U_iconst (n := 29) (1 : Int32) C dX4_stated_28 kiconst_1 rfl ?_
          refine U_icne (tgt := 40) (n := 32) C dX4_stated_29 (by decide) rfl (fun c10 => ?_) (fun c10 => ?_)
          · replace hf := (if_pos c10).symm.trans hf
            refine U_iload_n (n := 33) 2 C dX4_stated_32 rfl rfl ?_
            refine U_ifne (tgt := 40) (n := 36) C dX4_stated_33 (by decide) rfl (fun c11 => ?_) (fun c11 => ?_)
            · replace hf := (if_pos c11).symm.trans hf
              refine U_iconst (n := 37) (1 : Int32) C dX4_stated_36 kiconst_1 rfl ?_
              refine U_goto (n := 0) (tgt := 41) C dX4_stated_37 (by decide) ?_
              have hr := Option.some.inj hf
              subst hr
              exact U_lv [1, 2, 4] rfl J8
            · replace hf := (if_neg c11).symm.trans hf
              refine U_iconst (n := 41) (0 : Int32) C dX4_stated_40 kiconst_0 rfl ?_
              have hr := Option.some.inj hf
              subst hr
              exact U_lv [1, 2, 4] rfl J8
          · replace hf := (if_neg c10).symm.trans hf
            refine U_iconst (n := 41) (0 : Int32) C dX4_stated_40 kiconst_0 rfl ?_
            have hr := Option.some.inj hf
            subst hr
            exact U_lv [1, 2, 4] rfl J8
theorem rc_X4_stated {o : Nat} {a1 : Int32} {h : Hp} {z} (hf : f_X4_stated o a1 h = some z) : rc 4 h o = some () := by
  unfold f_X4_stated at hf
  exact (bsome hf).choose_spec.1
set_option maxHeartbeats 2000000 in
set_option maxRecDepth 20000 in
theorem M_X4_stated {g : GT} {o : Nat} {a1 : Int32} {h : Hp} {r : Int32} {h2 : Hp} (hf : f_X4_stated o a1 h = some (r, h2)) : CM g yX4_stated cX4_stated 5 (some .int) 10 0 0 [.ref o, .int a1] h (.inr (some (.int r))) h2 := by
  refine CM_of rfl (fun _ => Nat.le_of_ble_eq_true rfl) (fun Γ C hn0 => ?_)
  have C : Cx g Γ cX4_stated RX4 "stated" 5 (some .int) 10 0 0 := C
  generalize hQ : Qe g Γ (.inr (some (.int r))) h2 0 0 = Q
  show U g Γ 5 Q 0 0 0 [(0, .ref o), (1, .int a1)] [] h
  unfold f_X4_stated at hf
  replace hf := (bsome hf).choose_spec.2
  refine U_iconst (n := 1) (0 : Int32) C dX4_stated_0 kiconst_0 rfl ?_
  refine U_istore_n (n := 2) (lv2 := [(2, .int (0 : Int32)), (0, .ref o), (1, .int a1)]) C dX4_stated_1 (by decide) rfl rfl ?_
  refine U_iconst (n := 3) (0 : Int32) C dX4_stated_2 kiconst_0 rfl ?_
  refine U_istore_n (n := 4) (lv2 := [(3, .int (0 : Int32)), (2, .int (0 : Int32)), (0, .ref o), (1, .int a1)]) C dX4_stated_3 (by decide) rfl rfl ?_
  refine U_join2 (fun v12 h13 => U g Γ 5 Q 0 0 49 [(2, .int v12)] [] h13) hf (fun v12 h13 hf => ?_) (fun v12 h13 hf J => U_lv [2, 3, 1, 0] rfl (L_X4_stated_4 C hf J))
  refine U_iload_n (n := 50) 0 C dX4_stated_49 rfl rfl ?_
  obtain ⟨hr1, hr2⟩ := Prod.mk.inj (Option.some.inj hf)
  subst hr1; subst hr2
  subst hQ
  exact U_iret C dX4_stated_50 (Nat.le_refl 0) (Nat.le_refl 0)
def f_X4_counted (o : Nat) (a1 : Int32) (h : Hp) : Option (Int32 × Hp) :=
  (rc 4 h o).bind fun _ =>
  if a1 = 0 then (
    (fR 4 0 h o).bind fun v2 =>
    (aI h v2 (0 : Int32)).bind fun v3 =>
    some ((v3, h))
  ) else (
  if a1 = 1 then (
    (fI 4 9 h o).bind fun v5 =>
    some ((v5, h))
  ) else (
  if a1 = 2 then (
    (f_X4_many o (1 : Int32) h).bind fun v7 =>
    some ((v7, h))
  ) else (
  if a1 = 3 then (
    (f_X4_many o (2 : Int32) h).bind fun v9 =>
    some ((v9, h))
  ) else (
  if a1 = 4 then (
    (f_X4_many o (0 : Int32) h).bind fun v11 =>
    some ((v11, h))
  ) else (
  if a1 = 5 then (
    (fI 4 11 h o).bind fun v13 =>
    some ((v13, h))
  ) else (
  if a1 = 6 then (
    bind2 (f_X4_stated o (0 : Int32) h) fun v15 h16 =>
    some ((v15, h16))
  ) else (
  if a1 = 7 then (
    bind2 (f_X4_stated o (1 : Int32) h) fun v18 h19 =>
    some ((v18, h19))
  ) else (
  if a1 = 8 then (
    (fR 4 0 h o).bind fun v21 =>
    (aI h v21 (2 : Int32)).bind fun v22 =>
    some ((v22, h))
  ) else (
    (fR 4 0 h o).bind fun v24 =>
    (aI h v24 (1 : Int32)).bind fun v25 =>
    some ((v25, h))
  )))))))))
theorem rc_X4_counted {o : Nat} {a1 : Int32} {h : Hp} {z} (hf : f_X4_counted o a1 h = some z) : rc 4 h o = some () := by
  unfold f_X4_counted at hf
  exact (bsome hf).choose_spec.1
set_option maxHeartbeats 2000000 in
set_option maxRecDepth 20000 in
theorem M_X4_counted {g : GT} {o : Nat} {a1 : Int32} {h : Hp} {r : Int32} {h2 : Hp} (hf : f_X4_counted o a1 h = some (r, h2)) : CM g yX4_counted cX4_counted 2 (some .int) 11 0 0 [.ref o, .int a1] h (.inr (some (.int r))) h2 := by
  refine CM_of rfl (fun _ => Nat.le_of_ble_eq_true rfl) (fun Γ C hn0 => ?_)
  have C : Cx g Γ cX4_counted RX4 "counted" 2 (some .int) 11 0 0 := C
  generalize hQ : Qe g Γ (.inr (some (.int r))) h2 0 0 = Q
  show U g Γ 2 Q 0 0 0 [(0, .ref o), (1, .int a1)] [] h
  unfold f_X4_counted at hf
  replace hf := (bsome hf).choose_spec.2
  refine U_iload_n (n := 1) 1 C dX4_counted_0 rfl rfl ?_
  by_cases c1 : a1 = 0
  · replace hf := (if_pos c1).symm.trans hf
    refine U_tblIn (tgt := 52) C dX4_counted_1 (by rw [c1]; decide) (by rw [c1]; decide) (by rw [c1]; rfl) (by decide) ?_
    refine U_aload_n (n := 53) 0 C dX4_counted_52 rfl rfl rfl ?_
    refine gf_RX4_7 (n := 56) C dX4_counted_53 hf rfl (fun v2 hf => ?_)
    refine U_iconst (n := 57) (0 : Int32) C dX4_counted_56 kiconst_0 rfl ?_
    refine U_iald (n := 58) C dX4_counted_57 hf rfl (fun v3 hf => ?_)
    obtain ⟨hr1, hr2⟩ := Prod.mk.inj (Option.some.inj hf)
    subst hr1; subst hr2
    subst hQ
    exact U_iret C dX4_counted_58 (Nat.le_refl 0) (Nat.le_refl 0)
  replace hf := (if_neg c1).symm.trans hf
  by_cases c4 : a1 = 1
  · replace hf := (if_pos c4).symm.trans hf
    refine U_tblIn (tgt := 59) C dX4_counted_1 (by rw [c4]; decide) (by rw [c4]; decide) (by rw [c4]; rfl) (by decide) ?_
    refine U_aload_n (n := 60) 0 C dX4_counted_59 rfl rfl rfl ?_
    refine gf_RX4_71 (n := 63) C dX4_counted_60 hf rfl (fun v5 hf => ?_)
    obtain ⟨hr1, hr2⟩ := Prod.mk.inj (Option.some.inj hf)
    subst hr1; subst hr2
    subst hQ
    exact U_iret C dX4_counted_63 (Nat.le_refl 0) (Nat.le_refl 0)
  replace hf := (if_neg c4).symm.trans hf
  by_cases c6 : a1 = 2
  · replace hf := (if_pos c6).symm.trans hf
    refine U_tblIn (tgt := 64) C dX4_counted_1 (by rw [c6]; decide) (by rw [c6]; decide) (by rw [c6]; rfl) (by decide) ?_
    refine U_aload_n (n := 65) 0 C dX4_counted_64 rfl rfl rfl ?_
    refine U_iconst (n := 66) (1 : Int32) C dX4_counted_65 kiconst_1 rfl ?_
    obtain ⟨v7, ev7, hf⟩ := bsome hf
    refine cv_RX4_161 (n := 69) C dX4_counted_66 (av := [.int (1 : Int32)]) rfl (rc_X4_many ev7) (M_X4_many ev7) (Nat.le_of_ble_eq_true rfl) (Nat.zero_le _) (Nat.zero_le _) (Nat.le_of_ble_eq_true rfl) rfl ?_
    obtain ⟨hr1, hr2⟩ := Prod.mk.inj (Option.some.inj hf)
    subst hr1; subst hr2
    subst hQ
    exact U_iret C dX4_counted_69 (Nat.le_refl 0) (Nat.le_refl 0)
  replace hf := (if_neg c6).symm.trans hf
  by_cases c8 : a1 = 3
  · replace hf := (if_pos c8).symm.trans hf
    refine U_tblIn (tgt := 70) C dX4_counted_1 (by rw [c8]; decide) (by rw [c8]; decide) (by rw [c8]; rfl) (by decide) ?_
    refine U_aload_n (n := 71) 0 C dX4_counted_70 rfl rfl rfl ?_
    refine U_iconst (n := 72) (2 : Int32) C dX4_counted_71 kiconst_2 rfl ?_
    obtain ⟨v9, ev9, hf⟩ := bsome hf
    refine cv_RX4_161 (n := 75) C dX4_counted_72 (av := [.int (2 : Int32)]) rfl (rc_X4_many ev9) (M_X4_many ev9) (Nat.le_of_ble_eq_true rfl) (Nat.zero_le _) (Nat.zero_le _) (Nat.le_of_ble_eq_true rfl) rfl ?_
    obtain ⟨hr1, hr2⟩ := Prod.mk.inj (Option.some.inj hf)
    subst hr1; subst hr2
    subst hQ
    exact U_iret C dX4_counted_75 (Nat.le_refl 0) (Nat.le_refl 0)
  replace hf := (if_neg c8).symm.trans hf
  by_cases c10 : a1 = 4
  · replace hf := (if_pos c10).symm.trans hf
    refine U_tblIn (tgt := 76) C dX4_counted_1 (by rw [c10]; decide) (by rw [c10]; decide) (by rw [c10]; rfl) (by decide) ?_
    refine U_aload_n (n := 77) 0 C dX4_counted_76 rfl rfl rfl ?_
    refine U_iconst (n := 78) (0 : Int32) C dX4_counted_77 kiconst_0 rfl ?_
    obtain ⟨v11, ev11, hf⟩ := bsome hf
    refine cv_RX4_161 (n := 81) C dX4_counted_78 (av := [.int (0 : Int32)]) rfl (rc_X4_many ev11) (M_X4_many ev11) (Nat.le_of_ble_eq_true rfl) (Nat.zero_le _) (Nat.zero_le _) (Nat.le_of_ble_eq_true rfl) rfl ?_
    obtain ⟨hr1, hr2⟩ := Prod.mk.inj (Option.some.inj hf)
    subst hr1; subst hr2
    subst hQ
    exact U_iret C dX4_counted_81 (Nat.le_refl 0) (Nat.le_refl 0)
  replace hf := (if_neg c10).symm.trans hf
  by_cases c12 : a1 = 5
  · replace hf := (if_pos c12).symm.trans hf
    refine U_tblIn (tgt := 82) C dX4_counted_1 (by rw [c12]; decide) (by rw [c12]; decide) (by rw [c12]; rfl) (by decide) ?_
    refine U_aload_n (n := 83) 0 C dX4_counted_82 rfl rfl rfl ?_
    refine gf_RX4_74 (n := 86) C dX4_counted_83 hf rfl (fun v13 hf => ?_)
    obtain ⟨hr1, hr2⟩ := Prod.mk.inj (Option.some.inj hf)
    subst hr1; subst hr2
    subst hQ
    exact U_iret C dX4_counted_86 (Nat.le_refl 0) (Nat.le_refl 0)
  replace hf := (if_neg c12).symm.trans hf
  by_cases c14 : a1 = 6
  · replace hf := (if_pos c14).symm.trans hf
    refine U_tblIn (tgt := 87) C dX4_counted_1 (by rw [c14]; decide) (by rw [c14]; decide) (by rw [c14]; rfl) (by decide) ?_
    refine U_aload_n (n := 88) 0 C dX4_counted_87 rfl rfl rfl ?_
    refine U_iconst (n := 89) (0 : Int32) C dX4_counted_88 kiconst_0 rfl ?_
    obtain ⟨v15, h16, ev15, hf⟩ := bsome2 hf
    refine cv_RX4_192 (n := 92) C dX4_counted_89 (av := [.int (0 : Int32)]) rfl (rc_X4_stated ev15) (M_X4_stated ev15) (Nat.le_of_ble_eq_true rfl) (Nat.zero_le _) (Nat.zero_le _) (Nat.le_of_ble_eq_true rfl) rfl ?_
    obtain ⟨hr1, hr2⟩ := Prod.mk.inj (Option.some.inj hf)
    subst hr1; subst hr2
    subst hQ
    exact U_iret C dX4_counted_92 (Nat.le_refl 0) (Nat.le_refl 0)
  replace hf := (if_neg c14).symm.trans hf
  by_cases c17 : a1 = 7
  · replace hf := (if_pos c17).symm.trans hf
    refine U_tblIn (tgt := 93) C dX4_counted_1 (by rw [c17]; decide) (by rw [c17]; decide) (by rw [c17]; rfl) (by decide) ?_
    refine U_aload_n (n := 94) 0 C dX4_counted_93 rfl rfl rfl ?_
    refine U_iconst (n := 95) (1 : Int32) C dX4_counted_94 kiconst_1 rfl ?_
    obtain ⟨v18, h19, ev18, hf⟩ := bsome2 hf
    refine cv_RX4_192 (n := 98) C dX4_counted_95 (av := [.int (1 : Int32)]) rfl (rc_X4_stated ev18) (M_X4_stated ev18) (Nat.le_of_ble_eq_true rfl) (Nat.zero_le _) (Nat.zero_le _) (Nat.le_of_ble_eq_true rfl) rfl ?_
    obtain ⟨hr1, hr2⟩ := Prod.mk.inj (Option.some.inj hf)
    subst hr1; subst hr2
    subst hQ
    exact U_iret C dX4_counted_98 (Nat.le_refl 0) (Nat.le_refl 0)
  replace hf := (if_neg c17).symm.trans hf
  by_cases c20 : a1 = 8
  · replace hf := (if_pos c20).symm.trans hf
    refine U_tblIn (tgt := 99) C dX4_counted_1 (by rw [c20]; decide) (by rw [c20]; decide) (by rw [c20]; rfl) (by decide) ?_
    refine U_aload_n (n := 100) 0 C dX4_counted_99 rfl rfl rfl ?_
    refine gf_RX4_7 (n := 103) C dX4_counted_100 hf rfl (fun v21 hf => ?_)
    refine U_iconst (n := 104) (2 : Int32) C dX4_counted_103 kiconst_2 rfl ?_
    refine U_iald (n := 105) C dX4_counted_104 hf rfl (fun v22 hf => ?_)
    obtain ⟨hr1, hr2⟩ := Prod.mk.inj (Option.some.inj hf)
    subst hr1; subst hr2
    subst hQ
    exact U_iret C dX4_counted_105 (Nat.le_refl 0) (Nat.le_refl 0)
  replace hf := (if_neg c20).symm.trans hf
  have hn23 : (a1).toInt < 0 ∨ 8 < (a1).toInt := by
    have := i32_ne c1
    have := i32_ne c4
    have := i32_ne c6
    have := i32_ne c8
    have := i32_ne c10
    have := i32_ne c12
    have := i32_ne c14
    have := i32_ne c17
    have := i32_ne c20
    simp only [Int32.reduceToInt] at *
    omega
  refine U_tblOut (tgt := 106) C dX4_counted_1 hn23 (by decide) ?_
  refine U_aload_n (n := 107) 0 C dX4_counted_106 rfl rfl rfl ?_
  refine gf_RX4_7 (n := 110) C dX4_counted_107 hf rfl (fun v24 hf => ?_)
  refine U_iconst (n := 111) (1 : Int32) C dX4_counted_110 kiconst_1 rfl ?_
  refine U_iald (n := 112) C dX4_counted_111 hf rfl (fun v25 hf => ?_)
  obtain ⟨hr1, hr2⟩ := Prod.mk.inj (Option.some.inj hf)
  subst hr1; subst hr2
  subst hQ
  exact U_iret C dX4_counted_112 (Nat.le_refl 0) (Nat.le_refl 0)
def f_X4_count (o : Nat) (a1 : Int32) (h : Hp) : Option (Int32 × Hp) :=
  (rc 4 h o).bind fun _ =>
  (f_X4_in a1 (0 : Int32) (9 : Int32)).bind fun v1 =>
  if v1 = 0 then (
    bind2 (f_X4_fails o (1 : Int32) h) fun v3 h4 =>
    some ((v3, h4))
  ) else (
    bind2 (f_X4_counted o a1 h) fun v5 h6 =>
    bind2 (f_X4_tells o v5 h6) fun v7 h8 =>
    some ((v7, h8))
  )
theorem rc_X4_count {o : Nat} {a1 : Int32} {h : Hp} {z} (hf : f_X4_count o a1 h = some z) : rc 4 h o = some () := by
  unfold f_X4_count at hf
  exact (bsome hf).choose_spec.1
set_option maxHeartbeats 2000000 in
set_option maxRecDepth 20000 in
theorem M_X4_count {g : GT} {o : Nat} {a1 : Int32} {h : Hp} {r : Int32} {h2 : Hp} (hf : f_X4_count o a1 h = some (r, h2)) : CM g yX4_count cX4_count 2 (some .int) 12 0 0 [.ref o, .int a1] h (.inr (some (.int r))) h2 := by
  refine CM_of rfl (fun _ => Nat.le_of_ble_eq_true rfl) (fun Γ C hn0 => ?_)
  have C : Cx g Γ cX4_count RX4 "count" 2 (some .int) 12 0 0 := C
  generalize hQ : Qe g Γ (.inr (some (.int r))) h2 0 0 = Q
  show U g Γ 2 Q 0 0 0 [(0, .ref o), (1, .int a1)] [] h
  unfold f_X4_count at hf
  replace hf := (bsome hf).choose_spec.2
  refine U_iload_n (n := 1) 1 C dX4_count_0 rfl rfl ?_
  refine U_iconst (n := 2) (0 : Int32) C dX4_count_1 kiconst_0 rfl ?_
  refine U_bipush (n := 4) (9 : Int32) C dX4_count_2 kbipush_9 rfl ?_
  obtain ⟨v1, ev1, hf⟩ := bsome hf
  refine cv_RX4_91 (n := 7) C dX4_count_4 (av := [.int a1, .int (0 : Int32), .int (9 : Int32)]) rfl (M_X4_in ev1) (Nat.le_of_ble_eq_true rfl) (Nat.zero_le _) (Nat.zero_le _) (Nat.le_of_ble_eq_true rfl) rfl ?_
  refine U_ifeq (tgt := 22) (n := 10) C dX4_count_7 (by decide) rfl (fun c2 => ?_) (fun c2 => ?_)
  · replace hf := (if_pos c2).symm.trans hf
    refine U_aload_n (n := 23) 0 C dX4_count_22 rfl rfl rfl ?_
    refine U_iconst (n := 24) (1 : Int32) C dX4_count_23 kiconst_1 rfl ?_
    obtain ⟨v3, h4, ev3, hf⟩ := bsome2 hf
    refine cv_RX4_113 (n := 27) C dX4_count_24 (av := [.int (1 : Int32)]) rfl (rc_X4_fails ev3) (M_X4_fails ev3) (Nat.le_of_ble_eq_true rfl) (Nat.zero_le _) (Nat.zero_le _) (Nat.le_of_ble_eq_true rfl) rfl ?_
    obtain ⟨hr1, hr2⟩ := Prod.mk.inj (Option.some.inj hf)
    subst hr1; subst hr2
    subst hQ
    exact U_iret C dX4_count_27 (Nat.le_refl 0) (Nat.le_refl 0)
  · replace hf := (if_neg c2).symm.trans hf
    refine U_aload_n (n := 11) 0 C dX4_count_10 rfl rfl rfl ?_
    refine U_aload_n (n := 12) 0 C dX4_count_11 rfl rfl rfl ?_
    refine U_iload_n (n := 13) 1 C dX4_count_12 rfl rfl ?_
    obtain ⟨v5, h6, ev5, hf⟩ := bsome2 hf
    refine cv_RX4_196 (n := 16) C dX4_count_13 (av := [.int a1]) rfl (rc_X4_counted ev5) (M_X4_counted ev5) (Nat.le_of_ble_eq_true rfl) (Nat.zero_le _) (Nat.zero_le _) (Nat.le_of_ble_eq_true rfl) rfl ?_
    obtain ⟨v7, h8, ev7, hf⟩ := bsome2 hf
    refine cv_RX4_67 (n := 19) C dX4_count_16 (av := [.int v5]) rfl (rc_X4_tells ev7) (M_X4_tells ev7) (Nat.le_of_ble_eq_true rfl) (Nat.zero_le _) (Nat.zero_le _) (Nat.le_of_ble_eq_true rfl) rfl ?_
    refine U_goto (n := 0) (tgt := 27) C dX4_count_19 (by decide) ?_
    obtain ⟨hr1, hr2⟩ := Prod.mk.inj (Option.some.inj hf)
    subst hr1; subst hr2
    subst hQ
    exact U_iret C dX4_count_27 (Nat.le_refl 0) (Nat.le_refl 0)
def f_X4_isRelation (o : Nat) (a1 : Int32) (h : Hp) : Option Int32 :=
  (rc 4 h o).bind fun _ =>
  (fI 4 11 h o).bind fun v1 =>
  (f_X4_in a1 (0 : Int32) (v1 - (1 : Int32))).bind fun v2 =>
  (gB v2).bind fun _ =>
  some (v2)
theorem rc_X4_isRelation {o : Nat} {a1 : Int32} {h : Hp} {z} (hf : f_X4_isRelation o a1 h = some z) : rc 4 h o = some () := by
  unfold f_X4_isRelation at hf
  exact (bsome hf).choose_spec.1
set_option maxHeartbeats 2000000 in
set_option maxRecDepth 20000 in
theorem M_X4_isRelation {g : GT} {o : Nat} {a1 : Int32} {h : Hp} {r : Int32} (hf : f_X4_isRelation o a1 h = some r) : CM g yX4_isRelation cX4_isRelation 2 (some .boolean) 7 0 0 [.ref o, .int a1] h (.inr (some (.int r))) h := by
  refine CM_of rfl (fun _ => Nat.le_of_ble_eq_true rfl) (fun Γ C hn0 => ?_)
  have C : Cx g Γ cX4_isRelation RX4 "isRelation" 2 (some .boolean) 7 0 0 := C
  generalize hQ : Qe g Γ (.inr (some (.int r))) h 0 0 = Q
  show U g Γ 2 Q 0 0 0 [(0, .ref o), (1, .int a1)] [] h
  unfold f_X4_isRelation at hf
  replace hf := (bsome hf).choose_spec.2
  refine U_iload_n (n := 1) 1 C dX4_isRelation_0 rfl rfl ?_
  refine U_iconst (n := 2) (0 : Int32) C dX4_isRelation_1 kiconst_0 rfl ?_
  refine U_aload_n (n := 3) 0 C dX4_isRelation_2 rfl rfl rfl ?_
  refine gf_RX4_74 (n := 6) C dX4_isRelation_3 hf rfl (fun v1 hf => ?_)
  refine U_iconst (n := 7) (1 : Int32) C dX4_isRelation_6 kiconst_1 rfl ?_
  refine U_isub (n := 8) C dX4_isRelation_7 rfl ?_
  obtain ⟨v2, ev2, hf⟩ := bsome hf
  refine cv_RX4_91 (n := 11) C dX4_isRelation_8 (av := [.int a1, .int (0 : Int32), .int (v1 - (1 : Int32))]) rfl (M_X4_in ev2) (Nat.le_of_ble_eq_true rfl) (Nat.zero_le _) (Nat.zero_le _) (Nat.le_of_ble_eq_true rfl) rfl ?_
  obtain ⟨_, hz, hf⟩ := bsome hf
  replace hz := gB_spec hz
  have hr := (Option.some.inj hf)
  subst hr
  subst hQ
  exact U_zret C dX4_isRelation_11 hz (Nat.le_refl 0) (Nat.le_refl 0)
def f_X4_relationValue (o : Nat) (a1 : Int32) (a2 : Int32) (h : Hp) : Option (Int32 × Hp) :=
  (rc 4 h o).bind fun _ =>
  (f_X4_looksAt o a1 h).bind fun h2 =>
  if (5 : Int32) ≤ a2 then (
    if a2 = (5 : Int32) then (
      (f_X4_unknowns o h2).bind fun v5 =>
      some ((v5, h2))
    ) else (
      bind2 (f_X4_state o a1 h2) fun v6 h7 =>
      some ((v6, h7))
    )
  ) else (
    (fR 4 10 h2 o).bind fun v8 =>
    (aI h2 v8 (((5 : Int32) * a1) + a2)).bind fun v9 =>
    some ((v9, h2))
  )
theorem rc_X4_relationValue {o : Nat} {a1 : Int32} {a2 : Int32} {h : Hp} {z} (hf : f_X4_relationValue o a1 a2 h = some z) : rc 4 h o = some () := by
  unfold f_X4_relationValue at hf
  exact (bsome hf).choose_spec.1
set_option maxHeartbeats 2000000 in
set_option maxRecDepth 20000 in
theorem M_X4_relationValue {g : GT} {o : Nat} {a1 : Int32} {a2 : Int32} {h : Hp} {r : Int32} {h2 : Hp} (hf : f_X4_relationValue o a1 a2 h = some (r, h2)) : CM g yX4_relationValue cX4_relationValue 3 (some .int) 10 0 0 [.ref o, .int a1, .int a2] h (.inr (some (.int r))) h2 := by
  refine CM_of rfl (fun _ => Nat.le_of_ble_eq_true rfl) (fun Γ C hn0 => ?_)
  have C : Cx g Γ cX4_relationValue RX4 "relationValue" 3 (some .int) 10 0 0 := C
  generalize hQ : Qe g Γ (.inr (some (.int r))) h2 0 0 = Q
  show U g Γ 3 Q 0 0 0 [(0, .ref o), (1, .int a1), (2, .int a2)] [] h
  unfold f_X4_relationValue at hf
  replace hf := (bsome hf).choose_spec.2
  refine U_aload_n (n := 1) 0 C dX4_relationValue_0 rfl rfl rfl ?_
  refine U_iload_n (n := 2) 1 C dX4_relationValue_1 rfl rfl ?_
  obtain ⟨h2, ev1, hf⟩ := bsome hf
  refine cv_RX4_152 (n := 5) C dX4_relationValue_2 (av := [.int a1]) rfl (rc_X4_looksAt ev1) (M_X4_looksAt ev1) (Nat.le_of_ble_eq_true rfl) (Nat.zero_le _) (Nat.zero_le _) (Nat.le_of_ble_eq_true rfl) rfl ?_
  refine U_iload_n (n := 6) 2 C dX4_relationValue_5 rfl rfl ?_
  refine U_iconst (n := 7) (5 : Int32) C dX4_relationValue_6 kiconst_5 rfl ?_
  refine U_icge (tgt := 23) (n := 10) C dX4_relationValue_7 (by decide) rfl (fun c3 => ?_) (fun c3 => ?_)
  · replace hf := (if_pos c3).symm.trans hf
    refine U_iload_n (n := 24) 2 C dX4_relationValue_23 rfl rfl ?_
    refine U_iconst (n := 25) (5 : Int32) C dX4_relationValue_24 kiconst_5 rfl ?_
    refine U_icne (tgt := 35) (n := 28) C dX4_relationValue_25 (by decide) rfl (fun c4 => ?_) (fun c4 => ?_)
    · replace hf := (if_pos c4).symm.trans hf
      refine U_aload_n (n := 29) 0 C dX4_relationValue_28 rfl rfl rfl ?_
      obtain ⟨v5, ev5, hf⟩ := bsome hf
      refine cv_RX4_155 (n := 32) C dX4_relationValue_29 (av := []) rfl (rc_X4_unknowns ev5) (M_X4_unknowns ev5) (Nat.le_of_ble_eq_true rfl) (Nat.zero_le _) (Nat.zero_le _) (Nat.le_of_ble_eq_true rfl) rfl ?_
      refine U_goto (n := 0) (tgt := 40) C dX4_relationValue_32 (by decide) ?_
      obtain ⟨hr1, hr2⟩ := Prod.mk.inj (Option.some.inj hf)
      subst hr1; subst hr2
      subst hQ
      exact U_iret C dX4_relationValue_40 (Nat.le_refl 0) (Nat.le_refl 0)
    · replace hf := (if_neg c4).symm.trans hf
      refine U_aload_n (n := 36) 0 C dX4_relationValue_35 rfl rfl rfl ?_
      refine U_iload_n (n := 37) 1 C dX4_relationValue_36 rfl rfl ?_
      obtain ⟨v6, h7, ev6, hf⟩ := bsome2 hf
      refine cv_RX4_189 (n := 40) C dX4_relationValue_37 (av := [.int a1]) rfl (rc_X4_state ev6) (M_X4_state ev6) (Nat.le_of_ble_eq_true rfl) (Nat.zero_le _) (Nat.zero_le _) (Nat.le_of_ble_eq_true rfl) rfl ?_
      obtain ⟨hr1, hr2⟩ := Prod.mk.inj (Option.some.inj hf)
      subst hr1; subst hr2
      subst hQ
      exact U_iret C dX4_relationValue_40 (Nat.le_refl 0) (Nat.le_refl 0)
  · replace hf := (if_neg c3).symm.trans hf
    refine U_aload_n (n := 11) 0 C dX4_relationValue_10 rfl rfl rfl ?_
    refine gf_RX4_28 (n := 14) C dX4_relationValue_11 hf rfl (fun v8 hf => ?_)
    refine U_iconst (n := 15) (5 : Int32) C dX4_relationValue_14 kiconst_5 rfl ?_
    refine U_iload_n (n := 16) 1 C dX4_relationValue_15 rfl rfl ?_
    refine U_imul (n := 17) C dX4_relationValue_16 rfl ?_
    refine U_iload_n (n := 18) 2 C dX4_relationValue_17 rfl rfl ?_
    refine U_iadd (n := 19) C dX4_relationValue_18 rfl ?_
    refine U_iald (n := 20) C dX4_relationValue_19 hf rfl (fun v9 hf => ?_)
    refine U_goto (n := 0) (tgt := 40) C dX4_relationValue_20 (by decide) ?_
    obtain ⟨hr1, hr2⟩ := Prod.mk.inj (Option.some.inj hf)
    subst hr1; subst hr2
    subst hQ
    exact U_iret C dX4_relationValue_40 (Nat.le_refl 0) (Nat.le_refl 0)
def f_X4_relation (o : Nat) (a1 : Int32) (a2 : Int32) (h : Hp) : Option (Int32 × Hp) :=
  (rc 4 h o).bind fun _ =>
  (f_X4_isRelation o a1 h).bind fun v1 =>
  if v1 = 0 then (
    bind2 (f_X4_fails o (1 : Int32) h) fun v3 h4 =>
    some ((v3, h4))
  ) else (
    (f_X4_in a2 (0 : Int32) (6 : Int32)).bind fun v5 =>
    if v5 = 0 then (
      bind2 (f_X4_fails o (2 : Int32) h) fun v7 h8 =>
      some ((v7, h8))
    ) else (
      bind2 (f_X4_relationValue o a1 a2 h) fun v9 h10 =>
      bind2 (f_X4_tells o v9 h10) fun v11 h12 =>
      some ((v11, h12))
    )
  )
theorem rc_X4_relation {o : Nat} {a1 : Int32} {a2 : Int32} {h : Hp} {z} (hf : f_X4_relation o a1 a2 h = some z) : rc 4 h o = some () := by
  unfold f_X4_relation at hf
  exact (bsome hf).choose_spec.1
set_option maxHeartbeats 2000000 in
set_option maxRecDepth 20000 in
theorem M_X4_relation {g : GT} {o : Nat} {a1 : Int32} {a2 : Int32} {h : Hp} {r : Int32} {h2 : Hp} (hf : f_X4_relation o a1 a2 h = some (r, h2)) : CM g yX4_relation cX4_relation 3 (some .int) 11 0 0 [.ref o, .int a1, .int a2] h (.inr (some (.int r))) h2 := by
  refine CM_of rfl (fun _ => Nat.le_of_ble_eq_true rfl) (fun Γ C hn0 => ?_)
  have C : Cx g Γ cX4_relation RX4 "relation" 3 (some .int) 11 0 0 := C
  generalize hQ : Qe g Γ (.inr (some (.int r))) h2 0 0 = Q
  show U g Γ 3 Q 0 0 0 [(0, .ref o), (1, .int a1), (2, .int a2)] [] h
  unfold f_X4_relation at hf
  replace hf := (bsome hf).choose_spec.2
  refine U_aload_n (n := 1) 0 C dX4_relation_0 rfl rfl rfl ?_
  refine U_iload_n (n := 2) 1 C dX4_relation_1 rfl rfl ?_
  obtain ⟨v1, ev1, hf⟩ := bsome hf
  refine cv_RX4_199 (n := 5) C dX4_relation_2 (av := [.int a1]) rfl (rc_X4_isRelation ev1) (M_X4_isRelation ev1) (Nat.le_of_ble_eq_true rfl) (Nat.zero_le _) (Nat.zero_le _) (Nat.le_of_ble_eq_true rfl) rfl ?_
  refine U_ifne (tgt := 14) (n := 8) C dX4_relation_5 (by decide) rfl (fun c2 => ?_) (fun c2 => ?_)
  · replace hf := (if_pos c2).symm.trans hf
    refine U_aload_n (n := 9) 0 C dX4_relation_8 rfl rfl rfl ?_
    refine U_iconst (n := 10) (1 : Int32) C dX4_relation_9 kiconst_1 rfl ?_
    obtain ⟨v3, h4, ev3, hf⟩ := bsome2 hf
    refine cv_RX4_113 (n := 13) C dX4_relation_10 (av := [.int (1 : Int32)]) rfl (rc_X4_fails ev3) (M_X4_fails ev3) (Nat.le_of_ble_eq_true rfl) (Nat.zero_le _) (Nat.zero_le _) (Nat.le_of_ble_eq_true rfl) rfl ?_
    obtain ⟨hr1, hr2⟩ := Prod.mk.inj (Option.some.inj hf)
    subst hr1; subst hr2
    subst hQ
    exact U_iret C dX4_relation_13 (Nat.le_refl 0) (Nat.le_refl 0)
  · replace hf := (if_neg c2).symm.trans hf
    refine U_iload_n (n := 15) 2 C dX4_relation_14 rfl rfl ?_
    refine U_iconst (n := 16) (0 : Int32) C dX4_relation_15 kiconst_0 rfl ?_
    refine U_bipush (n := 18) (6 : Int32) C dX4_relation_16 kbipush_6 rfl ?_
    obtain ⟨v5, ev5, hf⟩ := bsome hf
    refine cv_RX4_91 (n := 21) C dX4_relation_18 (av := [.int a2, .int (0 : Int32), .int (6 : Int32)]) rfl (M_X4_in ev5) (Nat.le_of_ble_eq_true rfl) (Nat.zero_le _) (Nat.zero_le _) (Nat.le_of_ble_eq_true rfl) rfl ?_
    refine U_ifeq (tgt := 37) (n := 24) C dX4_relation_21 (by decide) rfl (fun c6 => ?_) (fun c6 => ?_)
    · replace hf := (if_pos c6).symm.trans hf
      refine U_aload_n (n := 38) 0 C dX4_relation_37 rfl rfl rfl ?_
      refine U_iconst (n := 39) (2 : Int32) C dX4_relation_38 kiconst_2 rfl ?_
      obtain ⟨v7, h8, ev7, hf⟩ := bsome2 hf
      refine cv_RX4_113 (n := 42) C dX4_relation_39 (av := [.int (2 : Int32)]) rfl (rc_X4_fails ev7) (M_X4_fails ev7) (Nat.le_of_ble_eq_true rfl) (Nat.zero_le _) (Nat.zero_le _) (Nat.le_of_ble_eq_true rfl) rfl ?_
      obtain ⟨hr1, hr2⟩ := Prod.mk.inj (Option.some.inj hf)
      subst hr1; subst hr2
      subst hQ
      exact U_iret C dX4_relation_42 (Nat.le_refl 0) (Nat.le_refl 0)
    · replace hf := (if_neg c6).symm.trans hf
      refine U_aload_n (n := 25) 0 C dX4_relation_24 rfl rfl rfl ?_
      refine U_aload_n (n := 26) 0 C dX4_relation_25 rfl rfl rfl ?_
      refine U_iload_n (n := 27) 1 C dX4_relation_26 rfl rfl ?_
      refine U_iload_n (n := 28) 2 C dX4_relation_27 rfl rfl ?_
      obtain ⟨v9, h10, ev9, hf⟩ := bsome2 hf
      refine cv_RX4_202 (n := 31) C dX4_relation_28 (av := [.int a1, .int a2]) rfl (rc_X4_relationValue ev9) (M_X4_relationValue ev9) (Nat.le_of_ble_eq_true rfl) (Nat.zero_le _) (Nat.zero_le _) (Nat.le_of_ble_eq_true rfl) rfl ?_
      obtain ⟨v11, h12, ev11, hf⟩ := bsome2 hf
      refine cv_RX4_67 (n := 34) C dX4_relation_31 (av := [.int v9]) rfl (rc_X4_tells ev11) (M_X4_tells ev11) (Nat.le_of_ble_eq_true rfl) (Nat.zero_le _) (Nat.zero_le _) (Nat.le_of_ble_eq_true rfl) rfl ?_
      refine U_goto (n := 0) (tgt := 42) C dX4_relation_34 (by decide) ?_
      obtain ⟨hr1, hr2⟩ := Prod.mk.inj (Option.some.inj hf)
      subst hr1; subst hr2
      subst hQ
      exact U_iret C dX4_relation_42 (Nat.le_refl 0) (Nat.le_refl 0)
def f_X4_behind (o : Nat) (a1 : Int32) (h : Hp) : Option (Int64 × Hp) :=
  (rc 4 h o).bind fun _ =>
  (f_X4_isRelation o a1 h).bind fun v1 =>
  if v1 = 0 then (
    bind2 (f_X4_fails o (1 : Int32) h) fun v3 h4 =>
    some (((v3).toInt64, h4))
  ) else (
    (sF 4 6 (.int (0 : Int32)) h o).bind fun h5 =>
    (f_X4_laysReasons o h5).bind fun h7 =>
    bind2 (f_X4_whyRelation o a1 h7) fun v8 h9 =>
    some ((v8, h9))
  )
theorem rc_X4_behind {o : Nat} {a1 : Int32} {h : Hp} {z} (hf : f_X4_behind o a1 h = some z) : rc 4 h o = some () := by
  unfold f_X4_behind at hf
  exact (bsome hf).choose_spec.1
set_option maxHeartbeats 2000000 in
set_option maxRecDepth 20000 in
theorem M_X4_behind {g : GT} {o : Nat} {a1 : Int32} {h : Hp} {r : Int64} {h2 : Hp} (hf : f_X4_behind o a1 h = some (r, h2)) : CM g yX4_behind cX4_behind 2 (some .long) 11 0 0 [.ref o, .int a1] h (.inr (some (.long r))) h2 := by
  refine CM_of rfl (fun _ => Nat.le_of_ble_eq_true rfl) (fun Γ C hn0 => ?_)
  have C : Cx g Γ cX4_behind RX4 "behind" 2 (some .long) 11 0 0 := C
  generalize hQ : Qe g Γ (.inr (some (.long r))) h2 0 0 = Q
  show U g Γ 2 Q 0 0 0 [(0, .ref o), (1, .int a1)] [] h
  unfold f_X4_behind at hf
  replace hf := (bsome hf).choose_spec.2
  refine U_aload_n (n := 1) 0 C dX4_behind_0 rfl rfl rfl ?_
  refine U_iload_n (n := 2) 1 C dX4_behind_1 rfl rfl ?_
  obtain ⟨v1, ev1, hf⟩ := bsome hf
  refine cv_RX4_199 (n := 5) C dX4_behind_2 (av := [.int a1]) rfl (rc_X4_isRelation ev1) (M_X4_isRelation ev1) (Nat.le_of_ble_eq_true rfl) (Nat.zero_le _) (Nat.zero_le _) (Nat.le_of_ble_eq_true rfl) rfl ?_
  refine U_ifne (tgt := 15) (n := 8) C dX4_behind_5 (by decide) rfl (fun c2 => ?_) (fun c2 => ?_)
  · replace hf := (if_pos c2).symm.trans hf
    refine U_aload_n (n := 9) 0 C dX4_behind_8 rfl rfl rfl ?_
    refine U_iconst (n := 10) (1 : Int32) C dX4_behind_9 kiconst_1 rfl ?_
    obtain ⟨v3, h4, ev3, hf⟩ := bsome2 hf
    refine cv_RX4_113 (n := 13) C dX4_behind_10 (av := [.int (1 : Int32)]) rfl (rc_X4_fails ev3) (M_X4_fails ev3) (Nat.le_of_ble_eq_true rfl) (Nat.zero_le _) (Nat.zero_le _) (Nat.le_of_ble_eq_true rfl) rfl ?_
    refine U_i2l (n := 14) C dX4_behind_13 rfl ?_
    obtain ⟨hr1, hr2⟩ := Prod.mk.inj (Option.some.inj hf)
    subst hr1; subst hr2
    subst hQ
    exact U_lret C dX4_behind_14 (Nat.le_refl 0) (Nat.le_refl 0)
  · replace hf := (if_neg c2).symm.trans hf
    refine U_aload_n (n := 16) 0 C dX4_behind_15 rfl rfl rfl ?_
    refine U_iconst (n := 17) (0 : Int32) C dX4_behind_16 kiconst_0 rfl ?_
    refine pf_RX4_60 (n := 20) C dX4_behind_17 hf rfl (fun h5 hf => ?_)
    refine U_aload_n (n := 21) 0 C dX4_behind_20 rfl rfl rfl ?_
    obtain ⟨h7, ev6, hf⟩ := bsome hf
    refine cv_RX4_186 (n := 24) C dX4_behind_21 (av := []) rfl (rc_X4_laysReasons ev6) (M_X4_laysReasons ev6) (Nat.le_of_ble_eq_true rfl) (Nat.zero_le _) (Nat.zero_le _) (Nat.le_of_ble_eq_true rfl) rfl ?_
    refine U_aload_n (n := 25) 0 C dX4_behind_24 rfl rfl rfl ?_
    refine U_iload_n (n := 26) 1 C dX4_behind_25 rfl rfl ?_
    obtain ⟨v8, h9, ev8, hf⟩ := bsome2 hf
    refine cv_RX4_182 (n := 29) C dX4_behind_26 (av := [.int a1]) rfl (rc_X4_whyRelation ev8) (M_X4_whyRelation ev8) (Nat.le_of_ble_eq_true rfl) (Nat.zero_le _) (Nat.zero_le _) (Nat.le_of_ble_eq_true rfl) rfl ?_
    obtain ⟨hr1, hr2⟩ := Prod.mk.inj (Option.some.inj hf)
    subst hr1; subst hr2
    subst hQ
    exact U_lret C dX4_behind_29 (Nat.le_refl 0) (Nat.le_refl 0)
def l_X4_completions_20 (p0 : Nat) : Nat → Int32 → Int32 → Hp → Option (Int32 × Hp)
  | 0, _, _, _ => none
  | fuel + 1, x1, x2, h =>
    (fI 4 9 h p0).bind fun v3 =>
    if v3 ≤ x2 then (
      some ((x1, h))
    ) else (
      (f_X4_get p0 x2 (1 : Int32) h).bind fun v5 =>
      bind2 (
        if v5 = 0 then (
          (fR 4 17 h p0).bind fun v12 =>
          (wI h v12 x1 x2).bind fun h13 =>
          some (((x1 + 1), h13))
        ) else (
          some ((x1, h))
        )
      ) fun v7 h8 =>
      l_X4_completions_20 p0 fuel v7 (x2 + 1) h8
    )
def l_X4_completions_67 (p0 : Nat) (p1 : Int32) (p3 : Int32) : Nat → Int32 → Hp → Option Hp
  | 0, _, _ => none
  | fuel + 1, x4, h =>
    if p1 ≤ x4 then (
      some h
    ) else (
      (fR 4 17 h p0).bind fun v18 =>
      (aI h v18 x4).bind fun v19 =>
      (
        if ((p3 >>> (x4 &&& 31)) &&& (1 : Int32)) = (1 : Int32) then (
          some ((1 : Int32))
        ) else (
          some ((-1 : Int32))
        )
      ).bind fun v21 =>
      (f_X4_puts p0 v19 (0 : Int32) v21 h).bind fun h26 =>
      l_X4_completions_67 p0 p1 p3 fuel (x4 + 1) h26
    )
def l_X4_completions_57 (p0 : Nat) (p1 : Int32) : Nat → Int32 → Int32 → Hp → Option (Int32 × Hp)
  | 0, _, _, _ => none
  | fuel + 1, x2, x3, h =>
    if ((1 : Int32) <<< (p1 &&& 31)) ≤ x3 then (
      some ((x2, h))
    ) else (
      (l_X4_completions_67 p0 p1 x3 FU (0 : Int32) h).bind fun h27 =>
      bind2 (f_X4_stated p0 (1 : Int32) h27) fun v28 h29 =>
      (
        if v28 = 0 then (
          some ((1 : Int32))
        ) else (
          some ((0 : Int32))
        )
      ).bind fun v31 =>
      l_X4_completions_57 p0 p1 fuel (x2 + v31) (x3 + 1) h29
    )
def l_X4_completions_130 (p0 : Nat) (p1 : Int32) : Nat → Int32 → Hp → Option Hp
  | 0, _, _ => none
  | fuel + 1, x3, h =>
    if p1 ≤ x3 then (
      some h
    ) else (
      (fR 4 17 h p0).bind fun v38 =>
      (aI h v38 x3).bind fun v39 =>
      (f_X4_puts p0 v39 (0 : Int32) (-100 : Int32) h).bind fun h41 =>
      l_X4_completions_130 p0 p1 fuel (x3 + 1) h41
    )
def f_X4_completions (o : Nat) (h : Hp) : Option (Int32 × Hp) :=
  (rc 4 h o).bind fun _ =>
  (f_X4_many o (0 : Int32) h).bind fun v1 =>
  if v1 ≤ (10 : Int32) then (
    bind2 (l_X4_completions_20 o FU (0 : Int32) (0 : Int32) h) fun v14 h15 =>
    bind2 (l_X4_completions_57 o v14 FU (0 : Int32) (0 : Int32) h15) fun v35 h36 =>
    (l_X4_completions_130 o v14 FU (0 : Int32) h36).bind fun h42 =>
    bind2 (f_X4_tells o v35 h42) fun v43 h44 =>
    some ((v43, h44))
  ) else (
    bind2 (f_X4_fails o (1 : Int32) h) fun v45 h46 =>
    some ((v45, h46))
  )
set_option maxHeartbeats 2000000 in
set_option maxRecDepth 20000 in
theorem L_X4_completions_20 {g : GT} {Γ : CT} {Q : State → Prop} {mc ms : Nat} (C : Cx g Γ cX4_completions RX4 "completions" 5 (some .int) 11 mc ms) {p0 : Nat} : ∀ {fuel : Nat} {x1 : Int32} {x2 : Int32} {h : Hp} {y1 : Int32} {hy : Hp}, l_X4_completions_20 p0 fuel x1 x2 h = some (y1, hy) → U g Γ 5 Q 0 0 53 [(0, .ref p0), (1, .int y1)] [] hy → U g Γ 5 Q 0 0 20 [(0, .ref p0), (1, .int x1), (2, .int x2)] [] h := by
  intro fuel
  induction fuel with
  | zero =>
    intro x1 x2 h y1 hy hf J0
    simp only [l_X4_completions_20, reduceCtorEq] at hf
  | succ fuel ih =>
    intro x1 x2 h y1 hy hf J0
    rw [l_X4_completions_20] at hf
    refine U_iload_n (n := 21) 2 C dX4_completions_20 rfl rfl ?_
    refine U_aload_n (n := 22) 0 C dX4_completions_21 rfl rfl rfl ?_
    refine gf_RX4_71 (n := 25) C dX4_completions_22 hf rfl (fun v3 hf => ?_)
    refine U_icge (tgt := 53) (n := 28) C dX4_completions_25 (by decide) rfl (fun c4 => ?_) (fun c4 => ?_)
    · replace hf := (if_pos c4).symm.trans hf
      obtain ⟨hr0, hs0⟩ := Prod.mk.inj (Option.some.inj hf)
      subst hr0
      subst hs0
      exact U_lv [0, 1] rfl J0
    · replace hf := (if_neg c4).symm.trans hf
      refine U_aload_n (n := 29) 0 C dX4_completions_28 rfl rfl rfl ?_
      refine U_iload_n (n := 30) 2 C dX4_completions_29 rfl rfl ?_
      refine U_iconst (n := 31) (1 : Int32) C dX4_completions_30 kiconst_1 rfl ?_
      obtain ⟨v5, ev5, hf⟩ := bsome hf
      refine cv_RX4_106 (n := 34) C dX4_completions_31 (av := [.int x2, .int (1 : Int32)]) rfl (rc_X4_get ev5) (M_X4_get ev5) (Nat.le_of_ble_eq_true rfl) (Nat.zero_le _) (Nat.zero_le _) (Nat.le_of_ble_eq_true rfl) rfl ?_
      refine U_join2 (fun v7 h8 => U g Γ 5 Q 0 0 47 [(0, .ref p0), (1, .int v7), (2, .int x2)] [] h8) hf (fun v7 h8 hf => ?_) (fun v7 h8 hf J10 => ?_)
      · skip
        refine U_iinc (n := 50) (v := (x2 + 1)) (lv2 := [(2, .int (x2 + 1)), (0, .ref p0), (1, .int v7)]) 2 C dX4_completions_47 rfl rfl (by decide) rfl rfl ?_
        refine U_goto (n := 0) (tgt := 20) C dX4_completions_50 (by decide) ?_
        exact U_lv [1, 2, 0] rfl (ih hf J0)
      · skip
        refine U_ifne (tgt := 47) (n := 37) C dX4_completions_34 (by decide) rfl (fun c6 => ?_) (fun c6 => ?_)
        · replace hf := (if_pos c6).symm.trans hf
          refine U_aload_n (n := 38) 0 C dX4_completions_37 rfl rfl rfl ?_
          refine gf_RX4_44 (n := 41) C dX4_completions_38 hf rfl (fun v12 hf => ?_)
          refine U_iload_n (n := 42) 1 C dX4_completions_41 rfl rfl ?_
          refine U_iload_n (n := 43) 2 C dX4_completions_42 rfl rfl ?_
          refine U_iast (n := 44) C dX4_completions_43 hf rfl (fun h13 hf => ?_)
          refine U_iinc (n := 47) (v := (x1 + 1)) (lv2 := [(1, .int (x1 + 1)), (0, .ref p0), (2, .int x2)]) 1 C dX4_completions_44 rfl rfl (by decide) rfl rfl ?_
          obtain ⟨hr0, hs0⟩ := Prod.mk.inj (Option.some.inj hf)
          subst hr0
          subst hs0
          exact U_lv [1, 0, 2] rfl J10
        · replace hf := (if_neg c6).symm.trans hf
          obtain ⟨hr0, hs0⟩ := Prod.mk.inj (Option.some.inj hf)
          subst hr0
          subst hs0
          exact U_lv [0, 1, 2] rfl J10
set_option maxHeartbeats 2000000 in
set_option maxRecDepth 20000 in
theorem L_X4_completions_67 {g : GT} {Γ : CT} {Q : State → Prop} {mc ms : Nat} (C : Cx g Γ cX4_completions RX4 "completions" 5 (some .int) 11 mc ms) {p0 : Nat} {p1 : Int32} {p2 : Int32} {p3 : Int32} : ∀ {fuel : Nat} {x4 : Int32} {h : Hp} {hy : Hp}, l_X4_completions_67 p0 p1 p3 fuel x4 h = some hy → U g Γ 5 Q 0 0 106 [(0, .ref p0), (1, .int p1), (2, .int p2), (3, .int p3)] [] hy → U g Γ 5 Q 0 0 67 [(0, .ref p0), (1, .int p1), (2, .int p2), (3, .int p3), (4, .int x4)] [] h := by
  intro fuel
  induction fuel with
  | zero =>
    intro x4 h hy hf J0
    simp only [l_X4_completions_67, reduceCtorEq] at hf
  | succ fuel ih =>
    intro x4 h hy hf J0
    rw [l_X4_completions_67] at hf
    refine U_iload (n := 69) 4 C dX4_completions_67 rfl rfl ?_
    refine U_iload_n (n := 70) 1 C dX4_completions_69 rfl rfl ?_
    refine U_icge (tgt := 106) (n := 73) C dX4_completions_70 (by decide) rfl (fun c17 => ?_) (fun c17 => ?_)
    · replace hf := (if_pos c17).symm.trans hf
      have hr := Option.some.inj hf
      subst hr
      exact U_lv [0, 1, 2, 3] rfl J0
    · replace hf := (if_neg c17).symm.trans hf
      refine U_aload_n (n := 74) 0 C dX4_completions_73 rfl rfl rfl ?_
      refine U_aload_n (n := 75) 0 C dX4_completions_74 rfl rfl rfl ?_
      refine gf_RX4_44 (n := 78) C dX4_completions_75 hf rfl (fun v18 hf => ?_)
      refine U_iload (n := 80) 4 C dX4_completions_78 rfl rfl ?_
      refine U_iald (n := 81) C dX4_completions_80 hf rfl (fun v19 hf => ?_)
      refine U_iconst (n := 82) (0 : Int32) C dX4_completions_81 kiconst_0 rfl ?_
      refine U_iload_n (n := 83) 3 C dX4_completions_82 rfl rfl ?_
      refine U_iload (n := 85) 4 C dX4_completions_83 rfl rfl ?_
      refine U_ishr (n := 86) C dX4_completions_85 rfl ?_
      refine U_iconst (n := 87) (1 : Int32) C dX4_completions_86 kiconst_1 rfl ?_
      refine U_iand (n := 88) C dX4_completions_87 rfl ?_
      refine U_iconst (n := 89) (1 : Int32) C dX4_completions_88 kiconst_1 rfl ?_
      refine U_join1 (fun v21 => U g Γ 5 Q 0 0 97 [(0, .ref p0), (1, .int p1), (2, .int p2), (3, .int p3), (4, .int x4)] [.int v21, .int (0 : Int32), .int v19, .ref p0] h) hf (fun v21 hf => ?_) (fun v21 hf J23 => ?_)
      · skip
        obtain ⟨h26, ev25, hf⟩ := bsome hf
        refine cv_RX4_87 (n := 100) C dX4_completions_97 (av := [.int v19, .int (0 : Int32), .int v21]) rfl (rc_X4_puts ev25) (M_X4_puts ev25) (Nat.le_of_ble_eq_true rfl) (Nat.zero_le _) (Nat.zero_le _) (Nat.le_of_ble_eq_true rfl) rfl ?_
        refine U_iinc (n := 103) (v := (x4 + 1)) (lv2 := [(4, .int (x4 + 1)), (0, .ref p0), (1, .int p1), (2, .int p2), (3, .int p3)]) 4 C dX4_completions_100 rfl rfl (by decide) rfl rfl ?_
        refine U_goto (n := 0) (tgt := 67) C dX4_completions_103 (by decide) ?_
        exact U_lv [1, 2, 3, 4, 0] rfl (ih hf J0)
      · skip
        refine U_icne (tgt := 96) (n := 92) C dX4_completions_89 (by decide) rfl (fun c20 => ?_) (fun c20 => ?_)
        · replace hf := (if_pos c20).symm.trans hf
          refine U_iconst (n := 93) (1 : Int32) C dX4_completions_92 kiconst_1 rfl ?_
          refine U_goto (n := 0) (tgt := 97) C dX4_completions_93 (by decide) ?_
          have hr := Option.some.inj hf
          subst hr
          exact U_lv [0, 1, 2, 3, 4] rfl J23
        · replace hf := (if_neg c20).symm.trans hf
          refine U_iconst (n := 97) (-1 : Int32) C dX4_completions_96 kiconst_m1 rfl ?_
          have hr := Option.some.inj hf
          subst hr
          exact U_lv [0, 1, 2, 3, 4] rfl J23
set_option maxHeartbeats 2000000 in
set_option maxRecDepth 20000 in
theorem L_X4_completions_57 {g : GT} {Γ : CT} {Q : State → Prop} {mc ms : Nat} (C : Cx g Γ cX4_completions RX4 "completions" 5 (some .int) 11 mc ms) {p0 : Nat} {p1 : Int32} : ∀ {fuel : Nat} {x2 : Int32} {x3 : Int32} {h : Hp} {y2 : Int32} {hy : Hp}, l_X4_completions_57 p0 p1 fuel x2 x3 h = some (y2, hy) → U g Γ 5 Q 0 0 128 [(0, .ref p0), (1, .int p1), (2, .int y2)] [] hy → U g Γ 5 Q 0 0 57 [(0, .ref p0), (1, .int p1), (2, .int x2), (3, .int x3)] [] h := by
  intro fuel
  induction fuel with
  | zero =>
    intro x2 x3 h y2 hy hf J0
    simp only [l_X4_completions_57, reduceCtorEq] at hf
  | succ fuel ih =>
    intro x2 x3 h y2 hy hf J0
    rw [l_X4_completions_57] at hf
    refine U_iload_n (n := 58) 3 C dX4_completions_57 rfl rfl ?_
    refine U_iconst (n := 59) (1 : Int32) C dX4_completions_58 kiconst_1 rfl ?_
    refine U_iload_n (n := 60) 1 C dX4_completions_59 rfl rfl ?_
    refine U_ishl (n := 61) C dX4_completions_60 rfl ?_
    refine U_icge (tgt := 128) (n := 64) C dX4_completions_61 (by decide) rfl (fun c16 => ?_) (fun c16 => ?_)
    · replace hf := (if_pos c16).symm.trans hf
      obtain ⟨hr0, hs0⟩ := Prod.mk.inj (Option.some.inj hf)
      subst hr0
      subst hs0
      exact U_lv [0, 1, 2] rfl J0
    · replace hf := (if_neg c16).symm.trans hf
      refine U_iconst (n := 65) (0 : Int32) C dX4_completions_64 kiconst_0 rfl ?_
      refine U_istore (n := 67) (lv2 := [(4, .int (0 : Int32)), (0, .ref p0), (1, .int p1), (2, .int x2), (3, .int x3)]) C dX4_completions_65 (by decide) rfl rfl ?_
      refine U_join1 (fun h27 => U g Γ 5 Q 0 0 106 [(0, .ref p0), (1, .int p1), (2, .int x2), (3, .int x3)] [] h27) hf (fun h27 hf => ?_) (fun h27 hf J => U_lv [1, 2, 3, 4, 0] rfl (L_X4_completions_67 C hf J))
      refine U_iload_n (n := 107) 2 C dX4_completions_106 rfl rfl ?_
      refine U_aload_n (n := 108) 0 C dX4_completions_107 rfl rfl rfl ?_
      refine U_iconst (n := 109) (1 : Int32) C dX4_completions_108 kiconst_1 rfl ?_
      obtain ⟨v28, h29, ev28, hf⟩ := bsome2 hf
      refine cv_RX4_192 (n := 112) C dX4_completions_109 (av := [.int (1 : Int32)]) rfl (rc_X4_stated ev28) (M_X4_stated ev28) (Nat.le_of_ble_eq_true rfl) (Nat.zero_le _) (Nat.zero_le _) (Nat.le_of_ble_eq_true rfl) rfl ?_
      refine U_join1 (fun v31 => U g Γ 5 Q 0 0 120 [(0, .ref p0), (1, .int p1), (3, .int x3)] [.int v31, .int x2] h29) hf (fun v31 hf => ?_) (fun v31 hf J33 => ?_)
      · skip
        refine U_iadd (n := 121) C dX4_completions_120 rfl ?_
        refine U_istore_n (n := 122) (lv2 := [(2, .int (x2 + v31)), (0, .ref p0), (1, .int p1), (3, .int x3)]) C dX4_completions_121 (by decide) rfl rfl ?_
        refine U_iinc (n := 125) (v := (x3 + 1)) (lv2 := [(3, .int (x3 + 1)), (2, .int (x2 + v31)), (0, .ref p0), (1, .int p1)]) 3 C dX4_completions_122 rfl rfl (by decide) rfl rfl ?_
        refine U_goto (n := 0) (tgt := 57) C dX4_completions_125 (by decide) ?_
        exact U_lv [2, 3, 1, 0] rfl (ih hf J0)
      · skip
        refine U_ifne (tgt := 119) (n := 115) C dX4_completions_112 (by decide) rfl (fun c30 => ?_) (fun c30 => ?_)
        · replace hf := (if_pos c30).symm.trans hf
          refine U_iconst (n := 116) (1 : Int32) C dX4_completions_115 kiconst_1 rfl ?_
          refine U_goto (n := 0) (tgt := 120) C dX4_completions_116 (by decide) ?_
          have hr := Option.some.inj hf
          subst hr
          exact U_lv [0, 1, 3] rfl J33
        · replace hf := (if_neg c30).symm.trans hf
          refine U_iconst (n := 120) (0 : Int32) C dX4_completions_119 kiconst_0 rfl ?_
          have hr := Option.some.inj hf
          subst hr
          exact U_lv [0, 1, 3] rfl J33
set_option maxHeartbeats 2000000 in
set_option maxRecDepth 20000 in
theorem L_X4_completions_130 {g : GT} {Γ : CT} {Q : State → Prop} {mc ms : Nat} (C : Cx g Γ cX4_completions RX4 "completions" 5 (some .int) 11 mc ms) {p0 : Nat} {p1 : Int32} {p2 : Int32} : ∀ {fuel : Nat} {x3 : Int32} {h : Hp} {hy : Hp}, l_X4_completions_130 p0 p1 fuel x3 h = some hy → U g Γ 5 Q 0 0 154 [(0, .ref p0), (2, .int p2)] [] hy → U g Γ 5 Q 0 0 130 [(0, .ref p0), (1, .int p1), (2, .int p2), (3, .int x3)] [] h := by
  intro fuel
  induction fuel with
  | zero =>
    intro x3 h hy hf J0
    simp only [l_X4_completions_130, reduceCtorEq] at hf
  | succ fuel ih =>
    intro x3 h hy hf J0
    rw [l_X4_completions_130] at hf
    refine U_iload_n (n := 131) 3 C dX4_completions_130 rfl rfl ?_
    refine U_iload_n (n := 132) 1 C dX4_completions_131 rfl rfl ?_
    refine U_icge (tgt := 154) (n := 135) C dX4_completions_132 (by decide) rfl (fun c37 => ?_) (fun c37 => ?_)
    · replace hf := (if_pos c37).symm.trans hf
      have hr := Option.some.inj hf
      subst hr
      exact U_lv [0, 2] rfl J0
    · replace hf := (if_neg c37).symm.trans hf
      refine U_aload_n (n := 136) 0 C dX4_completions_135 rfl rfl rfl ?_
      refine U_aload_n (n := 137) 0 C dX4_completions_136 rfl rfl rfl ?_
      refine gf_RX4_44 (n := 140) C dX4_completions_137 hf rfl (fun v38 hf => ?_)
      refine U_iload_n (n := 141) 3 C dX4_completions_140 rfl rfl ?_
      refine U_iald (n := 142) C dX4_completions_141 hf rfl (fun v39 hf => ?_)
      refine U_iconst (n := 143) (0 : Int32) C dX4_completions_142 kiconst_0 rfl ?_
      refine U_bipush (n := 145) (-100 : Int32) C dX4_completions_143 kbipush_m100 rfl ?_
      obtain ⟨h41, ev40, hf⟩ := bsome hf
      refine cv_RX4_87 (n := 148) C dX4_completions_145 (av := [.int v39, .int (0 : Int32), .int (-100 : Int32)]) rfl (rc_X4_puts ev40) (M_X4_puts ev40) (Nat.le_of_ble_eq_true rfl) (Nat.zero_le _) (Nat.zero_le _) (Nat.le_of_ble_eq_true rfl) rfl ?_
      refine U_iinc (n := 151) (v := (x3 + 1)) (lv2 := [(3, .int (x3 + 1)), (0, .ref p0), (1, .int p1), (2, .int p2)]) 3 C dX4_completions_148 rfl rfl (by decide) rfl rfl ?_
      refine U_goto (n := 0) (tgt := 130) C dX4_completions_151 (by decide) ?_
      exact U_lv [1, 2, 3, 0] rfl (ih hf J0)
theorem rc_X4_completions {o : Nat} {h : Hp} {z} (hf : f_X4_completions o h = some z) : rc 4 h o = some () := by
  unfold f_X4_completions at hf
  exact (bsome hf).choose_spec.1
set_option maxHeartbeats 2000000 in
set_option maxRecDepth 20000 in
theorem M_X4_completions {g : GT} {o : Nat} {h : Hp} {r : Int32} {h2 : Hp} (hf : f_X4_completions o h = some (r, h2)) : CM g yX4_completions cX4_completions 5 (some .int) 11 0 0 [.ref o] h (.inr (some (.int r))) h2 := by
  refine CM_of rfl (fun _ => Nat.le_of_ble_eq_true rfl) (fun Γ C hn0 => ?_)
  have C : Cx g Γ cX4_completions RX4 "completions" 5 (some .int) 11 0 0 := C
  generalize hQ : Qe g Γ (.inr (some (.int r))) h2 0 0 = Q
  show U g Γ 5 Q 0 0 0 [(0, .ref o)] [] h
  unfold f_X4_completions at hf
  replace hf := (bsome hf).choose_spec.2
  refine U_aload_n (n := 1) 0 C dX4_completions_0 rfl rfl rfl ?_
  refine U_iconst (n := 2) (0 : Int32) C dX4_completions_1 kiconst_0 rfl ?_
  obtain ⟨v1, ev1, hf⟩ := bsome hf
  refine cv_RX4_161 (n := 5) C dX4_completions_2 (av := [.int (0 : Int32)]) rfl (rc_X4_many ev1) (M_X4_many ev1) (Nat.le_of_ble_eq_true rfl) (Nat.zero_le _) (Nat.zero_le _) (Nat.le_of_ble_eq_true rfl) rfl ?_
  refine U_bipush (n := 7) (10 : Int32) C dX4_completions_5 kbipush_10 rfl ?_
  refine U_icle (tgt := 16) (n := 10) C dX4_completions_7 (by decide) rfl (fun c2 => ?_) (fun c2 => ?_)
  · replace hf := (if_pos c2).symm.trans hf
    refine U_iconst (n := 17) (0 : Int32) C dX4_completions_16 kiconst_0 rfl ?_
    refine U_istore_n (n := 18) (lv2 := [(1, .int (0 : Int32)), (0, .ref o)]) C dX4_completions_17 (by decide) rfl rfl ?_
    refine U_iconst (n := 19) (0 : Int32) C dX4_completions_18 kiconst_0 rfl ?_
    refine U_istore_n (n := 20) (lv2 := [(2, .int (0 : Int32)), (1, .int (0 : Int32)), (0, .ref o)]) C dX4_completions_19 (by decide) rfl rfl ?_
    refine U_join2 (fun v14 h15 => U g Γ 5 Q 0 0 53 [(0, .ref o), (1, .int v14)] [] h15) hf (fun v14 h15 hf => ?_) (fun v14 h15 hf J => U_lv [2, 1, 0] rfl (L_X4_completions_20 C hf J))
    refine U_iconst (n := 54) (0 : Int32) C dX4_completions_53 kiconst_0 rfl ?_
    refine U_istore_n (n := 55) (lv2 := [(2, .int (0 : Int32)), (0, .ref o), (1, .int v14)]) C dX4_completions_54 (by decide) rfl rfl ?_
    refine U_iconst (n := 56) (0 : Int32) C dX4_completions_55 kiconst_0 rfl ?_
    refine U_istore_n (n := 57) (lv2 := [(3, .int (0 : Int32)), (2, .int (0 : Int32)), (0, .ref o), (1, .int v14)]) C dX4_completions_56 (by decide) rfl rfl ?_
    refine U_join2 (fun v35 h36 => U g Γ 5 Q 0 0 128 [(0, .ref o), (1, .int v14), (2, .int v35)] [] h36) hf (fun v35 h36 hf => ?_) (fun v35 h36 hf J => U_lv [2, 3, 1, 0] rfl (L_X4_completions_57 C hf J))
    refine U_iconst (n := 129) (0 : Int32) C dX4_completions_128 kiconst_0 rfl ?_
    refine U_istore_n (n := 130) (lv2 := [(3, .int (0 : Int32)), (0, .ref o), (1, .int v14), (2, .int v35)]) C dX4_completions_129 (by decide) rfl rfl ?_
    refine U_join1 (fun h42 => U g Γ 5 Q 0 0 154 [(0, .ref o), (2, .int v35)] [] h42) hf (fun h42 hf => ?_) (fun h42 hf J => U_lv [1, 2, 3, 0] rfl (L_X4_completions_130 C hf J))
    refine U_aload_n (n := 155) 0 C dX4_completions_154 rfl rfl rfl ?_
    refine U_iload_n (n := 156) 1 C dX4_completions_155 rfl rfl ?_
    obtain ⟨v43, h44, ev43, hf⟩ := bsome2 hf
    refine cv_RX4_67 (n := 159) C dX4_completions_156 (av := [.int v35]) rfl (rc_X4_tells ev43) (M_X4_tells ev43) (Nat.le_of_ble_eq_true rfl) (Nat.zero_le _) (Nat.zero_le _) (Nat.le_of_ble_eq_true rfl) rfl ?_
    obtain ⟨hr1, hr2⟩ := Prod.mk.inj (Option.some.inj hf)
    subst hr1; subst hr2
    subst hQ
    exact U_iret C dX4_completions_159 (Nat.le_refl 0) (Nat.le_refl 0)
  · replace hf := (if_neg c2).symm.trans hf
    refine U_aload_n (n := 11) 0 C dX4_completions_10 rfl rfl rfl ?_
    refine U_iconst (n := 12) (1 : Int32) C dX4_completions_11 kiconst_1 rfl ?_
    obtain ⟨v45, h46, ev45, hf⟩ := bsome2 hf
    refine cv_RX4_113 (n := 15) C dX4_completions_12 (av := [.int (1 : Int32)]) rfl (rc_X4_fails ev45) (M_X4_fails ev45) (Nat.le_of_ble_eq_true rfl) (Nat.zero_le _) (Nat.zero_le _) (Nat.le_of_ble_eq_true rfl) rfl ?_
    obtain ⟨hr1, hr2⟩ := Prod.mk.inj (Option.some.inj hf)
    subst hr1; subst hr2
    subst hQ
    exact U_iret C dX4_completions_15 (Nat.le_refl 0) (Nat.le_refl 0)
def l_X4_cocircuit_45 (p0 : Nat) (p1 : Int32) (p2 : Int32) (h : Hp) : Nat → Int32 → Int32 → Option (Int32 ⊕ (Int32 × Hp))
  | 0, _, _ => none
  | fuel + 1, x3, x4 =>
    if x4 < 0 then (
      some (.inl x3)
    ) else (
      (f_X4_signOf p0 p1 p2 x4 h).bind fun v15 =>
      if v15 = (-100 : Int32) then (
        bind2 (f_X4_fails p0 (3 : Int32) h) fun v17 h18 =>
        some (.inr ((v17, h18)))
      ) else (
        (
          if v15 = (1 : Int32) then (
            some ((1 : Int32))
          ) else (
            if v15 = (-1 : Int32) then (
              some ((2 : Int32))
            ) else (
              some ((0 : Int32))
            )
          )
        ).bind fun v20 =>
        l_X4_cocircuit_45 p0 p1 p2 h fuel (((4 : Int32) * x3) + v20) (x4 + (-1))
      )
    )
def f_X4_cocircuit (o : Nat) (a1 : Int32) (a2 : Int32) (h : Hp) : Option (Int32 × Hp) :=
  (rc 4 h o).bind fun _ =>
  (f_X4_isPoint o a1 h).bind fun v1 =>
  if v1 = 0 then (
    bind2 (f_X4_fails o (1 : Int32) h) fun v3 h4 =>
    some ((v3, h4))
  ) else (
    (f_X4_isPoint o a2 h).bind fun v5 =>
    if v5 = 0 then (
      bind2 (f_X4_fails o (1 : Int32) h) fun v7 h8 =>
      some ((v7, h8))
    ) else (
      if a1 = a2 then (
        bind2 (f_X4_fails o (2 : Int32) h) fun v10 h11 =>
        some ((v10, h11))
      ) else (
        (fR 4 0 h o).bind fun v12 =>
        (aI h v12 (0 : Int32)).bind fun v13 =>
        bindR1 (l_X4_cocircuit_45 o a1 a2 h FU (0 : Int32) (v13 - (1 : Int32))) fun v25 =>
        bind2 (f_X4_tells o v25 h) fun v29 h30 =>
        some ((v29, h30))
      )
    )
  )
set_option maxHeartbeats 2000000 in
set_option maxRecDepth 20000 in
theorem L_X4_cocircuit_45 {g : GT} {Γ : CT} {Q : State → Prop} {mc ms : Nat} (C : Cx g Γ cX4_cocircuit RX4 "cocircuit" 6 (some .int) 8 mc ms) {p0 : Nat} {p1 : Int32} {p2 : Int32} {h : Hp} : ∀ {fuel : Nat} {x3 : Int32} {x4 : Int32} {out : (Int32 ⊕ (Int32 × Hp))}, l_X4_cocircuit_45 p0 p1 p2 h fuel x3 x4 = some out → (∀ y3, out = .inl y3 → U g Γ 6 Q 0 0 105 [(0, .ref p0), (3, .int y3)] [] h) → (∀ r, out = .inr r → Qe g Γ (.inr (some (.int r.1))) r.2 0 0 = Q) → U g Γ 6 Q 0 0 45 [(0, .ref p0), (1, .int p1), (2, .int p2), (3, .int x3), (4, .int x4)] [] h := by
  intro fuel
  induction fuel with
  | zero =>
    intro x3 x4 out hf J0 R0
    simp only [l_X4_cocircuit_45, reduceCtorEq] at hf
  | succ fuel ih =>
    intro x3 x4 out hf J0 R0
    rw [l_X4_cocircuit_45] at hf
    refine U_iload (n := 47) 4 C dX4_cocircuit_45 rfl rfl ?_
    refine U_iflt (tgt := 105) (n := 50) C dX4_cocircuit_47 (by decide) rfl (fun c14 => ?_) (fun c14 => ?_)
    · replace hf := (if_pos c14).symm.trans hf
      have hr := Option.some.inj hf
      subst hr
      exact U_lv [0, 3] rfl (J0 _ rfl)
    · replace hf := (if_neg c14).symm.trans hf
      refine U_aload_n (n := 51) 0 C dX4_cocircuit_50 rfl rfl rfl ?_
      refine U_iload_n (n := 52) 1 C dX4_cocircuit_51 rfl rfl ?_
      refine U_iload_n (n := 53) 2 C dX4_cocircuit_52 rfl rfl ?_
      refine U_iload (n := 55) 4 C dX4_cocircuit_53 rfl rfl ?_
      obtain ⟨v15, ev15, hf⟩ := bsome hf
      refine cv_RX4_129 (n := 58) C dX4_cocircuit_55 (av := [.int p1, .int p2, .int x4]) rfl (rc_X4_signOf ev15) (M_X4_signOf ev15) (Nat.le_of_ble_eq_true rfl) (Nat.zero_le _) (Nat.zero_le _) (Nat.le_of_ble_eq_true rfl) rfl ?_
      refine U_istore (n := 60) (lv2 := [(5, .int v15), (0, .ref p0), (1, .int p1), (2, .int p2), (3, .int x3), (4, .int x4)]) C dX4_cocircuit_58 (by decide) rfl rfl ?_
      refine U_iload (n := 62) 0 C dX4_cocircuit_60 rfl rfl ?_
      refine U_bipush (n := 64) (-100 : Int32) C dX4_cocircuit_62 kbipush_m100 rfl ?_
      refine U_icne (tgt := 73) (n := 67) C dX4_cocircuit_64 (by decide) rfl (fun c16 => ?_) (fun c16 => ?_)
      · replace hf := (if_pos c16).symm.trans hf
        refine U_aload_n (n := 68) 1 C dX4_cocircuit_67 rfl rfl rfl ?_
        refine U_iconst (n := 69) (3 : Int32) C dX4_cocircuit_68 kiconst_3 rfl ?_
        obtain ⟨v17, h18, ev17, hf⟩ := bsome2 hf
        refine cv_RX4_113 (n := 72) C dX4_cocircuit_69 (av := [.int (3 : Int32)]) rfl (rc_X4_fails ev17) (M_X4_fails ev17) (Nat.le_of_ble_eq_true rfl) (Nat.zero_le _) (Nat.zero_le _) (Nat.le_of_ble_eq_true rfl) rfl ?_
        have hr := Option.some.inj hf
        subst hr
        have hQ := R0 _ rfl
        subst hQ
        exact U_iret C dX4_cocircuit_72 (Nat.le_refl 0) (Nat.le_refl 0)
      · replace hf := (if_neg c16).symm.trans hf
        refine U_iconst (n := 74) (4 : Int32) C dX4_cocircuit_73 kiconst_4 rfl ?_
        refine U_iload_n (n := 75) 4 C dX4_cocircuit_74 rfl rfl ?_
        refine U_imul (n := 76) C dX4_cocircuit_75 rfl ?_
        refine U_iload (n := 78) 0 C dX4_cocircuit_76 rfl rfl ?_
        refine U_iconst (n := 79) (1 : Int32) C dX4_cocircuit_78 kiconst_1 rfl ?_
        refine U_join1 (fun v20 => U g Γ 6 Q 0 0 97 [(0, .ref p0), (1, .int p1), (2, .int p2), (4, .int x4)] [.int v20, .int ((4 : Int32) * x3)] h) hf (fun v20 hf => ?_) (fun v20 hf J22 => ?_)
        · skip
          refine U_iadd (n := 98) C dX4_cocircuit_97 rfl ?_
          refine U_istore_n (n := 99) (lv2 := [(3, .int (((4 : Int32) * x3) + v20)), (0, .ref p0), (1, .int p1), (2, .int p2), (4, .int x4)]) C dX4_cocircuit_98 (by decide) rfl rfl ?_
          refine U_iinc (n := 102) (v := (x4 + (-1))) (lv2 := [(4, .int (x4 + (-1))), (3, .int (((4 : Int32) * x3) + v20)), (0, .ref p0), (1, .int p1), (2, .int p2)]) 4 C dX4_cocircuit_99 rfl rfl (by decide) rfl rfl ?_
          refine U_goto (n := 0) (tgt := 45) C dX4_cocircuit_102 (by decide) ?_
          exact U_lv [2, 3, 4, 1, 0] rfl (ih hf J0 R0)
        · skip
          refine U_icne (tgt := 86) (n := 82) C dX4_cocircuit_79 (by decide) rfl (fun c19 => ?_) (fun c19 => ?_)
          · replace hf := (if_pos c19).symm.trans hf
            refine U_iconst (n := 83) (1 : Int32) C dX4_cocircuit_82 kiconst_1 rfl ?_
            refine U_goto (n := 0) (tgt := 97) C dX4_cocircuit_83 (by decide) ?_
            have hr := Option.some.inj hf
            subst hr
            exact U_lv [1, 2, 3, 5] rfl J22
          · replace hf := (if_neg c19).symm.trans hf
            refine U_iload (n := 88) 0 C dX4_cocircuit_86 rfl rfl ?_
            refine U_iconst (n := 89) (-1 : Int32) C dX4_cocircuit_88 kiconst_m1 rfl ?_
            refine U_icne (tgt := 96) (n := 92) C dX4_cocircuit_89 (by decide) rfl (fun c24 => ?_) (fun c24 => ?_)
            · replace hf := (if_pos c24).symm.trans hf
              refine U_iconst (n := 93) (2 : Int32) C dX4_cocircuit_92 kiconst_2 rfl ?_
              refine U_goto (n := 0) (tgt := 97) C dX4_cocircuit_93 (by decide) ?_
              have hr := Option.some.inj hf
              subst hr
              exact U_lv [1, 2, 3, 5] rfl J22
            · replace hf := (if_neg c24).symm.trans hf
              refine U_iconst (n := 97) (0 : Int32) C dX4_cocircuit_96 kiconst_0 rfl ?_
              have hr := Option.some.inj hf
              subst hr
              exact U_lv [1, 2, 3, 5] rfl J22
theorem rc_X4_cocircuit {o : Nat} {a1 : Int32} {a2 : Int32} {h : Hp} {z} (hf : f_X4_cocircuit o a1 a2 h = some z) : rc 4 h o = some () := by
  unfold f_X4_cocircuit at hf
  exact (bsome hf).choose_spec.1
set_option maxHeartbeats 2000000 in
set_option maxRecDepth 20000 in
theorem M_X4_cocircuit {g : GT} {o : Nat} {a1 : Int32} {a2 : Int32} {h : Hp} {r : Int32} {h2 : Hp} (hf : f_X4_cocircuit o a1 a2 h = some (r, h2)) : CM g yX4_cocircuit cX4_cocircuit 6 (some .int) 8 0 0 [.ref o, .int a1, .int a2] h (.inr (some (.int r))) h2 := by
  refine CM_of rfl (fun _ => Nat.le_of_ble_eq_true rfl) (fun Γ C hn0 => ?_)
  have C : Cx g Γ cX4_cocircuit RX4 "cocircuit" 6 (some .int) 8 0 0 := C
  generalize hQ : Qe g Γ (.inr (some (.int r))) h2 0 0 = Q
  show U g Γ 6 Q 0 0 0 [(0, .ref o), (1, .int a1), (2, .int a2)] [] h
  unfold f_X4_cocircuit at hf
  replace hf := (bsome hf).choose_spec.2
  refine U_aload_n (n := 1) 0 C dX4_cocircuit_0 rfl rfl rfl ?_
  refine U_iload_n (n := 2) 1 C dX4_cocircuit_1 rfl rfl ?_
  obtain ⟨v1, ev1, hf⟩ := bsome hf
  refine cv_RX4_95 (n := 5) C dX4_cocircuit_2 (av := [.int a1]) rfl (rc_X4_isPoint ev1) (M_X4_isPoint ev1) (Nat.le_of_ble_eq_true rfl) (Nat.zero_le _) (Nat.zero_le _) (Nat.le_of_ble_eq_true rfl) rfl ?_
  refine U_ifeq (tgt := 16) (n := 8) C dX4_cocircuit_5 (by decide) rfl (fun c2 => ?_) (fun c2 => ?_)
  · replace hf := (if_pos c2).symm.trans hf
    refine U_aload_n (n := 17) 0 C dX4_cocircuit_16 rfl rfl rfl ?_
    refine U_iconst (n := 18) (1 : Int32) C dX4_cocircuit_17 kiconst_1 rfl ?_
    obtain ⟨v3, h4, ev3, hf⟩ := bsome2 hf
    refine cv_RX4_113 (n := 21) C dX4_cocircuit_18 (av := [.int (1 : Int32)]) rfl (rc_X4_fails ev3) (M_X4_fails ev3) (Nat.le_of_ble_eq_true rfl) (Nat.zero_le _) (Nat.zero_le _) (Nat.le_of_ble_eq_true rfl) rfl ?_
    obtain ⟨hr1, hr2⟩ := Prod.mk.inj (Option.some.inj hf)
    subst hr1; subst hr2
    subst hQ
    exact U_iret C dX4_cocircuit_21 (Nat.le_refl 0) (Nat.le_refl 0)
  · replace hf := (if_neg c2).symm.trans hf
    refine U_aload_n (n := 9) 0 C dX4_cocircuit_8 rfl rfl rfl ?_
    refine U_iload_n (n := 10) 2 C dX4_cocircuit_9 rfl rfl ?_
    obtain ⟨v5, ev5, hf⟩ := bsome hf
    refine cv_RX4_95 (n := 13) C dX4_cocircuit_10 (av := [.int a2]) rfl (rc_X4_isPoint ev5) (M_X4_isPoint ev5) (Nat.le_of_ble_eq_true rfl) (Nat.zero_le _) (Nat.zero_le _) (Nat.le_of_ble_eq_true rfl) rfl ?_
    refine U_ifne (tgt := 22) (n := 16) C dX4_cocircuit_13 (by decide) rfl (fun c6 => ?_) (fun c6 => ?_)
    · replace hf := (if_pos c6).symm.trans hf
      refine U_aload_n (n := 17) 0 C dX4_cocircuit_16 rfl rfl rfl ?_
      refine U_iconst (n := 18) (1 : Int32) C dX4_cocircuit_17 kiconst_1 rfl ?_
      obtain ⟨v7, h8, ev7, hf⟩ := bsome2 hf
      refine cv_RX4_113 (n := 21) C dX4_cocircuit_18 (av := [.int (1 : Int32)]) rfl (rc_X4_fails ev7) (M_X4_fails ev7) (Nat.le_of_ble_eq_true rfl) (Nat.zero_le _) (Nat.zero_le _) (Nat.le_of_ble_eq_true rfl) rfl ?_
      obtain ⟨hr1, hr2⟩ := Prod.mk.inj (Option.some.inj hf)
      subst hr1; subst hr2
      subst hQ
      exact U_iret C dX4_cocircuit_21 (Nat.le_refl 0) (Nat.le_refl 0)
    · replace hf := (if_neg c6).symm.trans hf
      refine U_iload_n (n := 23) 1 C dX4_cocircuit_22 rfl rfl ?_
      refine U_iload_n (n := 24) 2 C dX4_cocircuit_23 rfl rfl ?_
      refine U_icne (tgt := 33) (n := 27) C dX4_cocircuit_24 (by decide) rfl (fun c9 => ?_) (fun c9 => ?_)
      · replace hf := (if_pos c9).symm.trans hf
        refine U_aload_n (n := 28) 0 C dX4_cocircuit_27 rfl rfl rfl ?_
        refine U_iconst (n := 29) (2 : Int32) C dX4_cocircuit_28 kiconst_2 rfl ?_
        obtain ⟨v10, h11, ev10, hf⟩ := bsome2 hf
        refine cv_RX4_113 (n := 32) C dX4_cocircuit_29 (av := [.int (2 : Int32)]) rfl (rc_X4_fails ev10) (M_X4_fails ev10) (Nat.le_of_ble_eq_true rfl) (Nat.zero_le _) (Nat.zero_le _) (Nat.le_of_ble_eq_true rfl) rfl ?_
        obtain ⟨hr1, hr2⟩ := Prod.mk.inj (Option.some.inj hf)
        subst hr1; subst hr2
        subst hQ
        exact U_iret C dX4_cocircuit_32 (Nat.le_refl 0) (Nat.le_refl 0)
      · replace hf := (if_neg c9).symm.trans hf
        refine U_iconst (n := 34) (0 : Int32) C dX4_cocircuit_33 kiconst_0 rfl ?_
        refine U_istore_n (n := 35) (lv2 := [(3, .int (0 : Int32)), (0, .ref o), (1, .int a1), (2, .int a2)]) C dX4_cocircuit_34 (by decide) rfl rfl ?_
        refine U_aload_n (n := 36) 1 C dX4_cocircuit_35 rfl rfl rfl ?_
        refine gf_RX4_7 (n := 39) C dX4_cocircuit_36 hf rfl (fun v12 hf => ?_)
        refine U_iconst (n := 40) (0 : Int32) C dX4_cocircuit_39 kiconst_0 rfl ?_
        refine U_iald (n := 41) C dX4_cocircuit_40 hf rfl (fun v13 hf => ?_)
        refine U_iconst (n := 42) (1 : Int32) C dX4_cocircuit_41 kiconst_1 rfl ?_
        refine U_isub (n := 43) C dX4_cocircuit_42 rfl ?_
        refine U_istore (n := 45) (lv2 := [(4, .int (v13 - (1 : Int32))), (3, .int (0 : Int32)), (0, .ref o), (1, .int a1), (2, .int a2)]) C dX4_cocircuit_43 (by decide) rfl rfl ?_
        refine U_joinR1 (fun v25 => U g Γ 6 Q 0 0 105 [(0, .ref o), (3, .int v25)] [] h) hf (fun v25 hf => ?_) (fun o28 hf J26 R27 => U_lv [2, 3, 4, 1, 0] rfl (L_X4_cocircuit_45 C hf J26 ?_))
        rotate_left
        · intro r hr
          have hr2 := (R27 r hr)
          subst hr2
          exact hQ
        refine U_aload_n (n := 106) 0 C dX4_cocircuit_105 rfl rfl rfl ?_
        refine U_iload_n (n := 107) 1 C dX4_cocircuit_106 rfl rfl ?_
        obtain ⟨v29, h30, ev29, hf⟩ := bsome2 hf
        refine cv_RX4_67 (n := 110) C dX4_cocircuit_107 (av := [.int v25]) rfl (rc_X4_tells ev29) (M_X4_tells ev29) (Nat.le_of_ble_eq_true rfl) (Nat.zero_le _) (Nat.zero_le _) (Nat.le_of_ble_eq_true rfl) rfl ?_
        obtain ⟨hr1, hr2⟩ := Prod.mk.inj (Option.some.inj hf)
        subst hr1; subst hr2
        subst hQ
        exact U_iret C dX4_cocircuit_110 (Nat.le_refl 0) (Nat.le_refl 0)
def l_X4_extreme_35 (p0 : Nat) (p1 : Int32) (p3 : Int32) (h : Hp) : Nat → Int32 → Int32 → Int32 → Int32 → Option (Int32 × Int32 × Int32)
  | 0, _, _, _, _ => none
  | fuel + 1, x4, x5, x6, x7 =>
    (fR 4 0 h p0).bind fun v9 =>
    (aI h v9 (0 : Int32)).bind fun v10 =>
    if v10 ≤ x7 then (
      some ((x4, x5, x6))
    ) else (
      (f_X4_signOf p0 p1 p3 x7 h).bind fun v12 =>
      (
        if x6 = 0 then (
          some ((0 : Int32))
        ) else (
          if v12 = (-100 : Int32) then (
            some ((0 : Int32))
          ) else (
            some ((1 : Int32))
          )
        )
      ).bind fun v14 =>
      (
        if v12 = (1 : Int32) then (
          some ((1 : Int32))
        ) else (
          some ((0 : Int32))
        )
      ).bind fun v19 =>
      (
        if v12 = (-1 : Int32) then (
          some ((1 : Int32))
        ) else (
          some ((0 : Int32))
        )
      ).bind fun v24 =>
      l_X4_extreme_35 p0 p1 p3 h fuel (x4 + v19) (x5 + v24) v14 (x7 + 1)
    )
def l_X4_extreme_4 (p0 : Nat) (p1 : Int32) (h : Hp) : Nat → Int32 → Int32 → Option Int32
  | 0, _, _ => none
  | fuel + 1, x2, x3 =>
    (fR 4 0 h p0).bind fun v1 =>
    (aI h v1 (0 : Int32)).bind fun v2 =>
    if v2 ≤ x3 then (
      some x2
    ) else (
      (
        if x3 = p1 then (
          some ((0 : Int32))
        ) else (
          some ((1 : Int32))
        )
      ).bind fun v5 =>
      bind3 (l_X4_extreme_35 p0 p1 x3 h FU (0 : Int32) (0 : Int32) v5 (0 : Int32)) fun v29 v30 v31 =>
      (
        if x2 = 0 then (
          if v31 = 0 then (
            some ((0 : Int32))
          ) else (
            if v29 = 0 then (
              if (v29 + v30) ≤ 0 then (
                some ((0 : Int32))
              ) else (
                some ((1 : Int32))
              )
            ) else (
              if v30 = 0 then (
                if (v29 + v30) ≤ 0 then (
                  some ((0 : Int32))
                ) else (
                  some ((1 : Int32))
                )
              ) else (
                some ((0 : Int32))
              )
            )
          )
        ) else (
          some ((1 : Int32))
        )
      ).bind fun v33 =>
      l_X4_extreme_4 p0 p1 h fuel v33 (x3 + 1)
    )
def f_X4_extreme (o : Nat) (a1 : Int32) (h : Hp) : Option Int32 :=
  (rc 4 h o).bind fun _ =>
  (l_X4_extreme_4 o a1 h FU (0 : Int32) (0 : Int32)).bind fun v42 =>
  (gB v42).bind fun _ =>
  some (v42)
set_option maxHeartbeats 2000000 in
set_option maxRecDepth 20000 in
theorem L_X4_extreme_35 {g : GT} {Γ : CT} {Q : State → Prop} {mc ms : Nat} (C : Cx g Γ cX4_extreme RX4 "extreme" 9 (some .boolean) 8 mc ms) {p0 : Nat} {p1 : Int32} {p2 : Int32} {p3 : Int32} {h : Hp} : ∀ {fuel : Nat} {x4 : Int32} {x5 : Int32} {x6 : Int32} {x7 : Int32} {y4 : Int32} {y5 : Int32} {y6 : Int32}, l_X4_extreme_35 p0 p1 p3 h fuel x4 x5 x6 x7 = some (y4, y5, y6) → U g Γ 9 Q 0 0 113 [(0, .ref p0), (1, .int p1), (2, .int p2), (3, .int p3), (4, .int y4), (5, .int y5), (6, .int y6)] [] h → U g Γ 9 Q 0 0 35 [(0, .ref p0), (1, .int p1), (2, .int p2), (3, .int p3), (4, .int x4), (5, .int x5), (6, .int x6), (7, .int x7)] [] h := by
  intro fuel
  induction fuel with
  | zero =>
    intro x4 x5 x6 x7 y4 y5 y6 hf J0
    simp only [l_X4_extreme_35, reduceCtorEq] at hf
  | succ fuel ih =>
    intro x4 x5 x6 x7 y4 y5 y6 hf J0
    rw [l_X4_extreme_35] at hf
    refine U_iload (n := 37) 7 C dX4_extreme_35 rfl rfl ?_
    refine U_aload_n (n := 38) 0 C dX4_extreme_37 rfl rfl rfl ?_
    refine gf_RX4_7 (n := 41) C dX4_extreme_38 hf rfl (fun v9 hf => ?_)
    refine U_iconst (n := 42) (0 : Int32) C dX4_extreme_41 kiconst_0 rfl ?_
    refine U_iald (n := 43) C dX4_extreme_42 hf rfl (fun v10 hf => ?_)
    refine U_icge (tgt := 113) (n := 46) C dX4_extreme_43 (by decide) rfl (fun c11 => ?_) (fun c11 => ?_)
    · replace hf := (if_pos c11).symm.trans hf
      obtain ⟨hr0, hs0⟩ := Prod.mk.inj (Option.some.inj hf)
      obtain ⟨hr1, hs1⟩ := Prod.mk.inj hs0
      subst hr0
      subst hr1
      subst hs1
      exact U_lv [0, 1, 2, 3, 4, 5, 6] rfl J0
    · replace hf := (if_neg c11).symm.trans hf
      refine U_aload_n (n := 47) 0 C dX4_extreme_46 rfl rfl rfl ?_
      refine U_iload_n (n := 48) 1 C dX4_extreme_47 rfl rfl ?_
      refine U_iload_n (n := 49) 3 C dX4_extreme_48 rfl rfl ?_
      refine U_iload (n := 51) 7 C dX4_extreme_49 rfl rfl ?_
      obtain ⟨v12, ev12, hf⟩ := bsome hf
      refine cv_RX4_129 (n := 54) C dX4_extreme_51 (av := [.int p1, .int p3, .int x7]) rfl (rc_X4_signOf ev12) (M_X4_signOf ev12) (Nat.le_of_ble_eq_true rfl) (Nat.zero_le _) (Nat.zero_le _) (Nat.le_of_ble_eq_true rfl) rfl ?_
      refine U_istore (n := 56) (lv2 := [(8, .int v12), (0, .ref p0), (1, .int p1), (2, .int p2), (3, .int p3), (4, .int x4), (5, .int x5), (6, .int x6), (7, .int x7)]) C dX4_extreme_54 (by decide) rfl rfl ?_
      refine U_iload (n := 58) 7 C dX4_extreme_56 rfl rfl ?_
      refine U_join1 (fun v14 => U g Γ 9 Q 0 0 73 [(0, .ref p0), (1, .int p1), (2, .int p2), (3, .int p3), (4, .int x4), (5, .int x5), (7, .int x7), (8, .int v12)] [.int v14] h) hf (fun v14 hf => ?_) (fun v14 hf J16 => ?_)
      · skip
        refine U_istore (n := 75) (lv2 := [(6, .int v14), (0, .ref p0), (1, .int p1), (2, .int p2), (3, .int p3), (4, .int x4), (5, .int x5), (7, .int x7), (8, .int v12)]) C dX4_extreme_73 (by decide) rfl rfl ?_
        refine U_iload (n := 77) 5 C dX4_extreme_75 rfl rfl ?_
        refine U_iload (n := 79) 8 C dX4_extreme_77 rfl rfl ?_
        refine U_iconst (n := 80) (1 : Int32) C dX4_extreme_79 kiconst_1 rfl ?_
        refine U_join1 (fun v19 => U g Γ 9 Q 0 0 88 [(0, .ref p0), (1, .int p1), (2, .int p2), (3, .int p3), (5, .int x5), (6, .int v14), (7, .int x7), (8, .int v12)] [.int v19, .int x4] h) hf (fun v19 hf => ?_) (fun v19 hf J21 => ?_)
        · skip
          refine U_iadd (n := 89) C dX4_extreme_88 rfl ?_
          refine U_istore (n := 91) (lv2 := [(4, .int (x4 + v19)), (0, .ref p0), (1, .int p1), (2, .int p2), (3, .int p3), (5, .int x5), (6, .int v14), (7, .int x7), (8, .int v12)]) C dX4_extreme_89 (by decide) rfl rfl ?_
          refine U_iload (n := 93) 5 C dX4_extreme_91 rfl rfl ?_
          refine U_iload (n := 95) 8 C dX4_extreme_93 rfl rfl ?_
          refine U_iconst (n := 96) (-1 : Int32) C dX4_extreme_95 kiconst_m1 rfl ?_
          refine U_join1 (fun v24 => U g Γ 9 Q 0 0 104 [(0, .ref p0), (1, .int p1), (2, .int p2), (3, .int p3), (4, .int (x4 + v19)), (6, .int v14), (7, .int x7)] [.int v24, .int x5] h) hf (fun v24 hf => ?_) (fun v24 hf J26 => ?_)
          · skip
            refine U_iadd (n := 105) C dX4_extreme_104 rfl ?_
            refine U_istore (n := 107) (lv2 := [(5, .int (x5 + v24)), (0, .ref p0), (1, .int p1), (2, .int p2), (3, .int p3), (4, .int (x4 + v19)), (6, .int v14), (7, .int x7)]) C dX4_extreme_105 (by decide) rfl rfl ?_
            refine U_iinc (n := 110) (v := (x7 + 1)) (lv2 := [(7, .int (x7 + 1)), (5, .int (x5 + v24)), (0, .ref p0), (1, .int p1), (2, .int p2), (3, .int p3), (4, .int (x4 + v19)), (6, .int v14)]) 7 C dX4_extreme_107 rfl rfl (by decide) rfl rfl ?_
            refine U_goto (n := 0) (tgt := 35) C dX4_extreme_110 (by decide) ?_
            exact U_lv [2, 3, 4, 5, 6, 1, 7, 0] rfl (ih hf J0)
          · skip
            refine U_icne (tgt := 103) (n := 99) C dX4_extreme_96 (by decide) rfl (fun c23 => ?_) (fun c23 => ?_)
            · replace hf := (if_pos c23).symm.trans hf
              refine U_iconst (n := 100) (1 : Int32) C dX4_extreme_99 kiconst_1 rfl ?_
              refine U_goto (n := 0) (tgt := 104) C dX4_extreme_100 (by decide) ?_
              have hr := Option.some.inj hf
              subst hr
              exact U_lv [1, 2, 3, 4, 0, 6, 7] rfl J26
            · replace hf := (if_neg c23).symm.trans hf
              refine U_iconst (n := 104) (0 : Int32) C dX4_extreme_103 kiconst_0 rfl ?_
              have hr := Option.some.inj hf
              subst hr
              exact U_lv [1, 2, 3, 4, 0, 6, 7] rfl J26
        · skip
          refine U_icne (tgt := 87) (n := 83) C dX4_extreme_80 (by decide) rfl (fun c18 => ?_) (fun c18 => ?_)
          · replace hf := (if_pos c18).symm.trans hf
            refine U_iconst (n := 84) (1 : Int32) C dX4_extreme_83 kiconst_1 rfl ?_
            refine U_goto (n := 0) (tgt := 88) C dX4_extreme_84 (by decide) ?_
            have hr := Option.some.inj hf
            subst hr
            exact U_lv [1, 2, 3, 4, 6, 0, 7, 8] rfl J21
          · replace hf := (if_neg c18).symm.trans hf
            refine U_iconst (n := 88) (0 : Int32) C dX4_extreme_87 kiconst_0 rfl ?_
            have hr := Option.some.inj hf
            subst hr
            exact U_lv [1, 2, 3, 4, 6, 0, 7, 8] rfl J21
      · skip
        refine U_ifeq (tgt := 72) (n := 61) C dX4_extreme_58 (by decide) rfl (fun c13 => ?_) (fun c13 => ?_)
        · replace hf := (if_pos c13).symm.trans hf
          refine U_iconst (n := 73) (0 : Int32) C dX4_extreme_72 kiconst_0 rfl ?_
          have hr := Option.some.inj hf
          subst hr
          exact U_lv [1, 2, 3, 4, 5, 6, 8, 0] rfl J16
        · replace hf := (if_neg c13).symm.trans hf
          refine U_iload (n := 63) 0 C dX4_extreme_61 rfl rfl ?_
          refine U_bipush (n := 65) (-100 : Int32) C dX4_extreme_63 kbipush_m100 rfl ?_
          refine U_iceq (tgt := 72) (n := 68) C dX4_extreme_65 (by decide) rfl (fun c28 => ?_) (fun c28 => ?_)
          · replace hf := (if_pos c28).symm.trans hf
            refine U_iconst (n := 73) (0 : Int32) C dX4_extreme_72 kiconst_0 rfl ?_
            have hr := Option.some.inj hf
            subst hr
            exact U_lv [1, 2, 3, 4, 5, 6, 8, 0] rfl J16
          · replace hf := (if_neg c28).symm.trans hf
            refine U_iconst (n := 69) (1 : Int32) C dX4_extreme_68 kiconst_1 rfl ?_
            refine U_goto (n := 0) (tgt := 73) C dX4_extreme_69 (by decide) ?_
            have hr := Option.some.inj hf
            subst hr
            exact U_lv [1, 2, 3, 4, 5, 6, 8, 0] rfl J16
set_option maxHeartbeats 2000000 in
set_option maxRecDepth 20000 in
theorem L_X4_extreme_4 {g : GT} {Γ : CT} {Q : State → Prop} {mc ms : Nat} (C : Cx g Γ cX4_extreme RX4 "extreme" 9 (some .boolean) 8 mc ms) {p0 : Nat} {p1 : Int32} {h : Hp} : ∀ {fuel : Nat} {x2 : Int32} {x3 : Int32} {y2 : Int32}, l_X4_extreme_4 p0 p1 h fuel x2 x3 = some y2 → U g Γ 9 Q 0 0 152 [(2, .int y2)] [] h → U g Γ 9 Q 0 0 4 [(0, .ref p0), (1, .int p1), (2, .int x2), (3, .int x3)] [] h := by
  intro fuel
  induction fuel with
  | zero =>
    intro x2 x3 y2 hf J0
    simp only [l_X4_extreme_4, reduceCtorEq] at hf
  | succ fuel ih =>
    intro x2 x3 y2 hf J0
    rw [l_X4_extreme_4] at hf
    refine U_iload_n (n := 5) 3 C dX4_extreme_4 rfl rfl ?_
    refine U_aload_n (n := 6) 0 C dX4_extreme_5 rfl rfl rfl ?_
    refine gf_RX4_7 (n := 9) C dX4_extreme_6 hf rfl (fun v1 hf => ?_)
    refine U_iconst (n := 10) (0 : Int32) C dX4_extreme_9 kiconst_0 rfl ?_
    refine U_iald (n := 11) C dX4_extreme_10 hf rfl (fun v2 hf => ?_)
    refine U_icge (tgt := 152) (n := 14) C dX4_extreme_11 (by decide) rfl (fun c3 => ?_) (fun c3 => ?_)
    · replace hf := (if_pos c3).symm.trans hf
      have hr := Option.some.inj hf
      subst hr
      exact U_lv [2] rfl J0
    · replace hf := (if_neg c3).symm.trans hf
      refine U_iconst (n := 15) (0 : Int32) C dX4_extreme_14 kiconst_0 rfl ?_
      refine U_istore (n := 17) (lv2 := [(4, .int (0 : Int32)), (0, .ref p0), (1, .int p1), (2, .int x2), (3, .int x3)]) C dX4_extreme_15 (by decide) rfl rfl ?_
      refine U_iconst (n := 18) (0 : Int32) C dX4_extreme_17 kiconst_0 rfl ?_
      refine U_istore (n := 20) (lv2 := [(5, .int (0 : Int32)), (4, .int (0 : Int32)), (0, .ref p0), (1, .int p1), (2, .int x2), (3, .int x3)]) C dX4_extreme_18 (by decide) rfl rfl ?_
      refine U_iload_n (n := 21) 5 C dX4_extreme_20 rfl rfl ?_
      refine U_iload_n (n := 22) 3 C dX4_extreme_21 rfl rfl ?_
      refine U_join1 (fun v5 => U g Γ 9 Q 0 0 30 [(0, .ref p0), (1, .int p1), (2, .int x2), (3, .int x3), (4, .int (0 : Int32)), (5, .int (0 : Int32))] [.int v5] h) hf (fun v5 hf => ?_) (fun v5 hf J7 => ?_)
      · skip
        refine U_istore (n := 32) (lv2 := [(6, .int v5), (0, .ref p0), (1, .int p1), (2, .int x2), (3, .int x3), (4, .int (0 : Int32)), (5, .int (0 : Int32))]) C dX4_extreme_30 (by decide) rfl rfl ?_
        refine U_iconst (n := 33) (0 : Int32) C dX4_extreme_32 kiconst_0 rfl ?_
        refine U_istore (n := 35) (lv2 := [(7, .int (0 : Int32)), (6, .int v5), (0, .ref p0), (1, .int p1), (2, .int x2), (3, .int x3), (4, .int (0 : Int32)), (5, .int (0 : Int32))]) C dX4_extreme_33 (by decide) rfl rfl ?_
        refine U_join3 (fun v29 v30 v31 => U g Γ 9 Q 0 0 113 [(0, .ref p0), (1, .int p1), (2, .int x2), (3, .int x3), (4, .int v29), (5, .int v30), (6, .int v31)] [] h) hf (fun v29 v30 v31 hf => ?_) (fun v29 v30 v31 hf J => U_lv [2, 3, 4, 5, 6, 7, 1, 0] rfl (L_X4_extreme_35 C hf J))
        refine U_iload_n (n := 114) 2 C dX4_extreme_113 rfl rfl ?_
        refine U_join1 (fun v33 => U g Γ 9 Q 0 0 145 [(0, .ref p0), (1, .int p1), (3, .int x3)] [.int v33] h) hf (fun v33 hf => ?_) (fun v33 hf J35 => ?_)
        · skip
          refine U_istore_n (n := 146) (lv2 := [(2, .int v33), (0, .ref p0), (1, .int p1), (3, .int x3)]) C dX4_extreme_145 (by decide) rfl rfl ?_
          refine U_iinc (n := 149) (v := (x3 + 1)) (lv2 := [(3, .int (x3 + 1)), (2, .int v33), (0, .ref p0), (1, .int p1)]) 3 C dX4_extreme_146 rfl rfl (by decide) rfl rfl ?_
          refine U_goto (n := 0) (tgt := 4) C dX4_extreme_149 (by decide) ?_
          exact U_lv [2, 3, 1, 0] rfl (ih hf J0)
        · skip
          refine U_ifne (tgt := 140) (n := 117) C dX4_extreme_114 (by decide) rfl (fun c32 => ?_) (fun c32 => ?_)
          · replace hf := (if_pos c32).symm.trans hf
            refine U_iload (n := 119) 6 C dX4_extreme_117 rfl rfl ?_
            refine U_ifeq (tgt := 144) (n := 122) C dX4_extreme_119 (by decide) rfl (fun c37 => ?_) (fun c37 => ?_)
            · replace hf := (if_pos c37).symm.trans hf
              refine U_iconst (n := 145) (0 : Int32) C dX4_extreme_144 kiconst_0 rfl ?_
              have hr := Option.some.inj hf
              subst hr
              exact U_lv [0, 1, 3] rfl J35
            · replace hf := (if_neg c37).symm.trans hf
              refine U_iload (n := 124) 4 C dX4_extreme_122 rfl rfl ?_
              refine U_ifeq (tgt := 132) (n := 127) C dX4_extreme_124 (by decide) rfl (fun c38 => ?_) (fun c38 => ?_)
              · replace hf := (if_pos c38).symm.trans hf
                refine U_iload (n := 134) 4 C dX4_extreme_132 rfl rfl ?_
                refine U_iload (n := 136) 5 C dX4_extreme_134 rfl rfl ?_
                refine U_iadd (n := 137) C dX4_extreme_136 rfl ?_
                refine U_ifle (tgt := 144) (n := 140) C dX4_extreme_137 (by decide) rfl (fun c39 => ?_) (fun c39 => ?_)
                · replace hf := (if_pos c39).symm.trans hf
                  refine U_iconst (n := 145) (0 : Int32) C dX4_extreme_144 kiconst_0 rfl ?_
                  have hr := Option.some.inj hf
                  subst hr
                  exact U_lv [0, 1, 3] rfl J35
                · replace hf := (if_neg c39).symm.trans hf
                  refine U_iconst (n := 141) (1 : Int32) C dX4_extreme_140 kiconst_1 rfl ?_
                  refine U_goto (n := 0) (tgt := 145) C dX4_extreme_141 (by decide) ?_
                  have hr := Option.some.inj hf
                  subst hr
                  exact U_lv [0, 1, 3] rfl J35
              · replace hf := (if_neg c38).symm.trans hf
                refine U_iload (n := 129) 5 C dX4_extreme_127 rfl rfl ?_
                refine U_ifne (tgt := 144) (n := 132) C dX4_extreme_129 (by decide) rfl (fun c40 => ?_) (fun c40 => ?_)
                · replace hf := (if_pos c40).symm.trans hf
                  refine U_iload (n := 134) 4 C dX4_extreme_132 rfl rfl ?_
                  refine U_iload (n := 136) 5 C dX4_extreme_134 rfl rfl ?_
                  refine U_iadd (n := 137) C dX4_extreme_136 rfl ?_
                  refine U_ifle (tgt := 144) (n := 140) C dX4_extreme_137 (by decide) rfl (fun c41 => ?_) (fun c41 => ?_)
                  · replace hf := (if_pos c41).symm.trans hf
                    refine U_iconst (n := 145) (0 : Int32) C dX4_extreme_144 kiconst_0 rfl ?_
                    have hr := Option.some.inj hf
                    subst hr
                    exact U_lv [0, 1, 3] rfl J35
                  · replace hf := (if_neg c41).symm.trans hf
                    refine U_iconst (n := 141) (1 : Int32) C dX4_extreme_140 kiconst_1 rfl ?_
                    refine U_goto (n := 0) (tgt := 145) C dX4_extreme_141 (by decide) ?_
                    have hr := Option.some.inj hf
                    subst hr
                    exact U_lv [0, 1, 3] rfl J35
                · replace hf := (if_neg c40).symm.trans hf
                  refine U_iconst (n := 145) (0 : Int32) C dX4_extreme_144 kiconst_0 rfl ?_
                  have hr := Option.some.inj hf
                  subst hr
                  exact U_lv [0, 1, 3] rfl J35
          · replace hf := (if_neg c32).symm.trans hf
            refine U_iconst (n := 141) (1 : Int32) C dX4_extreme_140 kiconst_1 rfl ?_
            refine U_goto (n := 0) (tgt := 145) C dX4_extreme_141 (by decide) ?_
            have hr := Option.some.inj hf
            subst hr
            exact U_lv [0, 1, 3] rfl J35
      · skip
        refine U_iceq (tgt := 29) (n := 25) C dX4_extreme_22 (by decide) rfl (fun c4 => ?_) (fun c4 => ?_)
        · replace hf := (if_pos c4).symm.trans hf
          refine U_iconst (n := 30) (0 : Int32) C dX4_extreme_29 kiconst_0 rfl ?_
          have hr := Option.some.inj hf
          subst hr
          exact U_lv [2, 3, 4, 5, 1, 0] rfl J7
        · replace hf := (if_neg c4).symm.trans hf
          refine U_iconst (n := 26) (1 : Int32) C dX4_extreme_25 kiconst_1 rfl ?_
          refine U_goto (n := 0) (tgt := 30) C dX4_extreme_26 (by decide) ?_
          have hr := Option.some.inj hf
          subst hr
          exact U_lv [2, 3, 4, 5, 1, 0] rfl J7
theorem rc_X4_extreme {o : Nat} {a1 : Int32} {h : Hp} {z} (hf : f_X4_extreme o a1 h = some z) : rc 4 h o = some () := by
  unfold f_X4_extreme at hf
  exact (bsome hf).choose_spec.1
set_option maxHeartbeats 2000000 in
set_option maxRecDepth 20000 in
theorem M_X4_extreme {g : GT} {o : Nat} {a1 : Int32} {h : Hp} {r : Int32} (hf : f_X4_extreme o a1 h = some r) : CM g yX4_extreme cX4_extreme 9 (some .boolean) 8 0 0 [.ref o, .int a1] h (.inr (some (.int r))) h := by
  refine CM_of rfl (fun _ => Nat.le_of_ble_eq_true rfl) (fun Γ C hn0 => ?_)
  have C : Cx g Γ cX4_extreme RX4 "extreme" 9 (some .boolean) 8 0 0 := C
  generalize hQ : Qe g Γ (.inr (some (.int r))) h 0 0 = Q
  show U g Γ 9 Q 0 0 0 [(0, .ref o), (1, .int a1)] [] h
  unfold f_X4_extreme at hf
  replace hf := (bsome hf).choose_spec.2
  refine U_iconst (n := 1) (0 : Int32) C dX4_extreme_0 kiconst_0 rfl ?_
  refine U_istore_n (n := 2) (lv2 := [(2, .int (0 : Int32)), (0, .ref o), (1, .int a1)]) C dX4_extreme_1 (by decide) rfl rfl ?_
  refine U_iconst (n := 3) (0 : Int32) C dX4_extreme_2 kiconst_0 rfl ?_
  refine U_istore_n (n := 4) (lv2 := [(3, .int (0 : Int32)), (2, .int (0 : Int32)), (0, .ref o), (1, .int a1)]) C dX4_extreme_3 (by decide) rfl rfl ?_
  refine U_join1 (fun v42 => U g Γ 9 Q 0 0 152 [(2, .int v42)] [] h) hf (fun v42 hf => ?_) (fun v42 hf J => U_lv [2, 3, 1, 0] rfl (L_X4_extreme_4 C hf J))
  refine U_iload_n (n := 153) 0 C dX4_extreme_152 rfl rfl ?_
  obtain ⟨_, hz, hf⟩ := bsome hf
  replace hz := gB_spec hz
  have hr := (Option.some.inj hf)
  subst hr
  subst hQ
  exact U_zret C dX4_extreme_153 hz (Nat.le_refl 0) (Nat.le_refl 0)
def f_X4_isExtreme (o : Nat) (a1 : Int32) (h : Hp) : Option (Int32 × Hp) :=
  (rc 4 h o).bind fun _ =>
  (f_X4_isPoint o a1 h).bind fun v1 =>
  if v1 = 0 then (
    bind2 (f_X4_fails o (1 : Int32) h) fun v3 h4 =>
    if v3 = 0 then (
      some (((0 : Int32), h4))
    ) else (
      some (((1 : Int32), h4))
    )
  ) else (
    (sF 4 6 (.int (0 : Int32)) h o).bind fun h6 =>
    (f_X4_extreme o a1 h6).bind fun v7 =>
    (gB v7).bind fun _ =>
    some ((v7, h6))
  )
theorem rc_X4_isExtreme {o : Nat} {a1 : Int32} {h : Hp} {z} (hf : f_X4_isExtreme o a1 h = some z) : rc 4 h o = some () := by
  unfold f_X4_isExtreme at hf
  exact (bsome hf).choose_spec.1
set_option maxHeartbeats 2000000 in
set_option maxRecDepth 20000 in
theorem M_X4_isExtreme {g : GT} {o : Nat} {a1 : Int32} {h : Hp} {r : Int32} {h2 : Hp} (hf : f_X4_isExtreme o a1 h = some (r, h2)) : CM g yX4_isExtreme cX4_isExtreme 2 (some .boolean) 9 0 0 [.ref o, .int a1] h (.inr (some (.int r))) h2 := by
  refine CM_of rfl (fun _ => Nat.le_of_ble_eq_true rfl) (fun Γ C hn0 => ?_)
  have C : Cx g Γ cX4_isExtreme RX4 "isExtreme" 2 (some .boolean) 9 0 0 := C
  generalize hQ : Qe g Γ (.inr (some (.int r))) h2 0 0 = Q
  show U g Γ 2 Q 0 0 0 [(0, .ref o), (1, .int a1)] [] h
  unfold f_X4_isExtreme at hf
  replace hf := (bsome hf).choose_spec.2
  refine U_aload_n (n := 1) 0 C dX4_isExtreme_0 rfl rfl rfl ?_
  refine U_iload_n (n := 2) 1 C dX4_isExtreme_1 rfl rfl ?_
  obtain ⟨v1, ev1, hf⟩ := bsome hf
  refine cv_RX4_95 (n := 5) C dX4_isExtreme_2 (av := [.int a1]) rfl (rc_X4_isPoint ev1) (M_X4_isPoint ev1) (Nat.le_of_ble_eq_true rfl) (Nat.zero_le _) (Nat.zero_le _) (Nat.le_of_ble_eq_true rfl) rfl ?_
  refine U_ifne (tgt := 22) (n := 8) C dX4_isExtreme_5 (by decide) rfl (fun c2 => ?_) (fun c2 => ?_)
  · replace hf := (if_pos c2).symm.trans hf
    refine U_aload_n (n := 9) 0 C dX4_isExtreme_8 rfl rfl rfl ?_
    refine U_iconst (n := 10) (1 : Int32) C dX4_isExtreme_9 kiconst_1 rfl ?_
    obtain ⟨v3, h4, ev3, hf⟩ := bsome2 hf
    refine cv_RX4_113 (n := 13) C dX4_isExtreme_10 (av := [.int (1 : Int32)]) rfl (rc_X4_fails ev3) (M_X4_fails ev3) (Nat.le_of_ble_eq_true rfl) (Nat.zero_le _) (Nat.zero_le _) (Nat.le_of_ble_eq_true rfl) rfl ?_
    refine U_ifeq (tgt := 20) (n := 16) C dX4_isExtreme_13 (by decide) rfl (fun c5 => ?_) (fun c5 => ?_)
    · replace hf := (if_pos c5).symm.trans hf
      refine U_iconst (n := 21) (0 : Int32) C dX4_isExtreme_20 kiconst_0 rfl ?_
      obtain ⟨hr1, hr2⟩ := Prod.mk.inj (Option.some.inj hf)
      subst hr1; subst hr2
      subst hQ
      exact U_zret C dX4_isExtreme_21 (Or.inl rfl) (Nat.le_refl 0) (Nat.le_refl 0)
    · replace hf := (if_neg c5).symm.trans hf
      refine U_iconst (n := 17) (1 : Int32) C dX4_isExtreme_16 kiconst_1 rfl ?_
      refine U_goto (n := 0) (tgt := 21) C dX4_isExtreme_17 (by decide) ?_
      obtain ⟨hr1, hr2⟩ := Prod.mk.inj (Option.some.inj hf)
      subst hr1; subst hr2
      subst hQ
      exact U_zret C dX4_isExtreme_21 (Or.inr rfl) (Nat.le_refl 0) (Nat.le_refl 0)
  · replace hf := (if_neg c2).symm.trans hf
    refine U_aload_n (n := 23) 0 C dX4_isExtreme_22 rfl rfl rfl ?_
    refine U_iconst (n := 24) (0 : Int32) C dX4_isExtreme_23 kiconst_0 rfl ?_
    refine pf_RX4_60 (n := 27) C dX4_isExtreme_24 hf rfl (fun h6 hf => ?_)
    refine U_aload_n (n := 28) 0 C dX4_isExtreme_27 rfl rfl rfl ?_
    refine U_iload_n (n := 29) 1 C dX4_isExtreme_28 rfl rfl ?_
    obtain ⟨v7, ev7, hf⟩ := bsome hf
    refine cv_RX4_205 (n := 32) C dX4_isExtreme_29 (av := [.int a1]) rfl (rc_X4_extreme ev7) (M_X4_extreme ev7) (Nat.le_of_ble_eq_true rfl) (Nat.zero_le _) (Nat.zero_le _) (Nat.le_of_ble_eq_true rfl) rfl ?_
    obtain ⟨_, hz, hf⟩ := bsome hf
    replace hz := gB_spec hz
    obtain ⟨hr1, hr2⟩ := Prod.mk.inj (Option.some.inj hf)
    subst hr1; subst hr2
    subst hQ
    exact U_zret C dX4_isExtreme_32 hz (Nat.le_refl 0) (Nat.le_refl 0)
