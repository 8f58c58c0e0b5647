def l_X3_save_17 (p0 : Nat) : Nat → Int32 → Hp → Option Hp
  | 0, _, _ => none
  | fuel + 1, x2, h =>
    if (4 : Int32) ≤ x2 then (
      some h
    ) else (
      (fR 3 3 h p0).bind fun v18 =>
      (fR 3 3 h p0).bind fun v19 =>
      (aQ h v19 x2).bind fun v20 =>
      (wQ h v18 (x2 - (1 : Int32)) v20).bind fun h21 =>
      l_X3_save_17 p0 fuel (x2 + 1) h21
    )
def f_X3_save (o : Nat) (h : Hp) : Option Hp :=
  (rc 3 h o).bind fun _ =>
  (fI 3 4 h o).bind fun v1 =>
  (
    if v1 < (4 : Int32) then (
      some h
    ) else (
      (fR 3 3 h o).bind fun v15 =>
      (aQ h v15 (0 : Int32)).bind fun v16 =>
      (l_X3_save_17 o FU (1 : Int32) h).bind fun h22 =>
      (fR 3 3 h22 o).bind fun v23 =>
      (wQ h22 v23 (3 : Int32) v16).bind fun h24 =>
      (fI 3 4 h24 o).bind fun v25 =>
      (sF 3 4 (.int (v25 - (1 : Int32))) h24 o).bind fun h26 =>
      some h26
    )
  ).bind fun h3 =>
  (fR 3 3 h3 o).bind fun v7 =>
  (fI 3 4 h3 o).bind fun v8 =>
  (aQ h3 v7 v8).bind fun v9 =>
  (fR 3 1 h3 o).bind fun v10 =>
  (f_X2_copyFrom v9 v10 h3).bind fun h12 =>
  (fI 3 4 h12 o).bind fun v13 =>
  (sF 3 4 (.int (v13 + (1 : Int32))) h12 o).bind fun h14 =>
  some (h14)
set_option maxHeartbeats 2000000 in
set_option maxRecDepth 20000 in
theorem L_X3_save_17 {g : GT} {Γ : CT} {Q : State → Prop} {mc ms : Nat} (C : Cx g Γ cX3_save RX3 "save" 3 none 7 mc ms) {p0 : Nat} {p1 : Nat} : ∀ {fuel : Nat} {x2 : Int32} {h : Hp} {hy : Hp}, l_X3_save_17 p0 fuel x2 h = some hy → U g Γ 3 Q 0 0 42 [(0, .ref p0), (1, .ref p1)] [] hy → U g Γ 3 Q 0 0 17 [(0, .ref p0), (1, .ref p1), (2, .int x2)] [] h := by
  intro fuel
  induction fuel with
  | zero =>
    intro x2 h hy hf J0
    simp only [l_X3_save_17, reduceCtorEq] at hf
  | succ fuel ih =>
    intro x2 h hy hf J0
    rw [l_X3_save_17] at hf
    refine U_iload_n (n := 18) 2 C dX3_save_17 rfl rfl ?_
    refine U_iconst (n := 19) (4 : Int32) C dX3_save_18 kiconst_4 rfl ?_
    refine U_icge (tgt := 42) (n := 22) C dX3_save_19 (by decide) rfl (fun c17 => ?_) (fun c17 => ?_)
    · replace hf := (if_pos c17).symm.trans hf
      have hr := Option.some.inj hf
      subst hr
      exact U_lv [0, 1] rfl J0
    · replace hf := (if_neg c17).symm.trans hf
      refine U_aload_n (n := 23) 0 C dX3_save_22 rfl rfl rfl ?_
      refine gf_RX3_30 (n := 26) C dX3_save_23 hf rfl (fun v18 hf => ?_)
      refine U_iload_n (n := 27) 2 C dX3_save_26 rfl rfl ?_
      refine U_iconst (n := 28) (1 : Int32) C dX3_save_27 kiconst_1 rfl ?_
      refine U_isub (n := 29) C dX3_save_28 rfl ?_
      refine U_aload_n (n := 30) 0 C dX3_save_29 rfl rfl rfl ?_
      refine gf_RX3_30 (n := 33) C dX3_save_30 hf rfl (fun v19 hf => ?_)
      refine U_iload_n (n := 34) 2 C dX3_save_33 rfl rfl ?_
      refine U_aald (n := 35) C dX3_save_34 hf rfl (fun v20 hf => ?_)
      refine U_aast (n := 36) C dX3_save_35 hf rfl (fun h21 hf => ?_)
      refine U_iinc (n := 39) (v := (x2 + 1)) (lv2 := [(2, .int (x2 + 1)), (0, .ref p0), (1, .ref p1)]) 2 C dX3_save_36 rfl rfl (by decide) rfl rfl ?_
      refine U_goto (n := 0) (tgt := 17) C dX3_save_39 (by decide) ?_
      exact U_lv [1, 2, 0] rfl (ih hf J0)
theorem rc_X3_save {o : Nat} {h : Hp} {z} (hf : f_X3_save o h = some z) : rc 3 h o = some () := by
  unfold f_X3_save at hf
  exact (bsome hf).choose_spec.1
set_option maxHeartbeats 2000000 in
set_option maxRecDepth 20000 in
theorem M_X3_save {g : GT} {o : Nat} {h : Hp} {h2 : Hp} (hf : f_X3_save o h = some h2) : CM g yX3_save cX3_save 3 none 7 0 0 [.ref o] h (.inr none) h2 := by
  refine CM_of rfl (fun _ => Nat.le_of_ble_eq_true rfl) (fun Γ C hn0 => ?_)
  have C : Cx g Γ cX3_save RX3 "save" 3 none 7 0 0 := C
  generalize hQ : Qe g Γ (.inr none) h2 0 0 = Q
  show U g Γ 3 Q 0 0 0 [(0, .ref o)] [] h
  unfold f_X3_save at hf
  replace hf := (bsome hf).choose_spec.2
  refine U_aload_n (n := 1) 0 C dX3_save_0 rfl rfl rfl ?_
  refine gf_RX3_34 (n := 4) C dX3_save_1 hf rfl (fun v1 hf => ?_)
  refine U_iconst (n := 5) (4 : Int32) C dX3_save_4 kiconst_4 rfl ?_
  refine U_join1 (fun h3 => U g Γ 3 Q 0 0 59 [(0, .ref o)] [] h3) hf (fun h3 hf => ?_) (fun h3 hf J5 => ?_)
  · skip
    refine U_aload_n (n := 60) 0 C dX3_save_59 rfl rfl rfl ?_
    refine gf_RX3_30 (n := 63) C dX3_save_60 hf rfl (fun v7 hf => ?_)
    refine U_aload_n (n := 64) 0 C dX3_save_63 rfl rfl rfl ?_
    refine gf_RX3_34 (n := 67) C dX3_save_64 hf rfl (fun v8 hf => ?_)
    refine U_aald (n := 68) C dX3_save_67 hf rfl (fun v9 hf => ?_)
    refine U_aload_n (n := 69) 0 C dX3_save_68 rfl rfl rfl ?_
    refine gf_RX3_19 (n := 72) C dX3_save_69 hf rfl (fun v10 hf => ?_)
    obtain ⟨h12, ev11, hf⟩ := bsome hf
    refine cv_RX3_288 (n := 75) C dX3_save_72 (av := [.ref v10]) rfl (rc_X2_copyFrom ev11) (M_X2_copyFrom ev11) (Nat.le_of_ble_eq_true rfl) (Nat.zero_le _) (Nat.zero_le _) (Nat.le_of_ble_eq_true rfl) rfl ?_
    refine U_aload_n (n := 76) 0 C dX3_save_75 rfl rfl rfl ?_
    refine U_dup (n := 77) C dX3_save_76 rfl rfl ?_
    refine gf_RX3_34 (n := 80) C dX3_save_77 hf rfl (fun v13 hf => ?_)
    refine U_iconst (n := 81) (1 : Int32) C dX3_save_80 kiconst_1 rfl ?_
    refine U_iadd (n := 82) C dX3_save_81 rfl ?_
    refine pf_RX3_34 (n := 85) C dX3_save_82 hf rfl (fun h14 hf => ?_)
    have hr := (Option.some.inj hf)
    subst hr
    subst hQ
    exact U_vret C dX3_save_85 (Nat.le_refl 0) (Nat.le_refl 0)
  · skip
    refine U_iclt (tgt := 59) (n := 8) C dX3_save_5 (by decide) rfl (fun c2 => ?_) (fun c2 => ?_)
    · replace hf := (if_pos c2).symm.trans hf
      have hr := Option.some.inj hf
      subst hr
      exact U_lv [0] rfl J5
    · replace hf := (if_neg c2).symm.trans hf
      refine U_aload_n (n := 9) 0 C dX3_save_8 rfl rfl rfl ?_
      refine gf_RX3_30 (n := 12) C dX3_save_9 hf rfl (fun v15 hf => ?_)
      refine U_iconst (n := 13) (0 : Int32) C dX3_save_12 kiconst_0 rfl ?_
      refine U_aald (n := 14) C dX3_save_13 hf rfl (fun v16 hf => ?_)
      refine U_astore_n (n := 15) (lv2 := [(1, .ref v16), (0, .ref o)]) C dX3_save_14 rfl (by decide) rfl rfl ?_
      refine U_iconst (n := 16) (1 : Int32) C dX3_save_15 kiconst_1 rfl ?_
      refine U_istore_n (n := 17) (lv2 := [(2, .int (1 : Int32)), (1, .ref v16), (0, .ref o)]) C dX3_save_16 (by decide) rfl rfl ?_
      refine U_join1 (fun h22 => U g Γ 3 Q 0 0 42 [(0, .ref o), (1, .ref v16)] [] h22) hf (fun h22 hf => ?_) (fun h22 hf J => U_lv [2, 1, 0] rfl (L_X3_save_17 C hf J))
      refine U_aload_n (n := 43) 0 C dX3_save_42 rfl rfl rfl ?_
      refine gf_RX3_30 (n := 46) C dX3_save_43 hf rfl (fun v23 hf => ?_)
      refine U_iconst (n := 47) (3 : Int32) C dX3_save_46 kiconst_3 rfl ?_
      refine U_aload_n (n := 48) 1 C dX3_save_47 rfl rfl rfl ?_
      refine U_aast (n := 49) C dX3_save_48 hf rfl (fun h24 hf => ?_)
      refine U_aload_n (n := 50) 0 C dX3_save_49 rfl rfl rfl ?_
      refine U_dup (n := 51) C dX3_save_50 rfl rfl ?_
      refine gf_RX3_34 (n := 54) C dX3_save_51 hf rfl (fun v25 hf => ?_)
      refine U_iconst (n := 55) (1 : Int32) C dX3_save_54 kiconst_1 rfl ?_
      refine U_isub (n := 56) C dX3_save_55 rfl ?_
      refine pf_RX3_34 (n := 59) C dX3_save_56 hf rfl (fun h26 hf => ?_)
      have hr := Option.some.inj hf
      subst hr
      exact U_lv [0] rfl J5
def f_X3_begin (o : Nat) (a1 : Int32) (h : Hp) : Option ((Nat ⊕ Int32) × Hp) :=
  (rc 3 h o).bind fun _ =>
  if a1 < (3 : Int32) then (
    some ((.inl 0, h))
  ) else (
    if a1 ≤ (8 : Int32) then (
      (f_X3_save o h).bind fun h4 =>
      (fR 3 1 h4 o).bind fun v5 =>
      (f_X2_clearFor v5 a1 h4).bind fun h7 =>
      (fR 3 0 h7 o).bind fun v8 =>
      (f_X0_arrange v8 a1 h7).bind fun h10 =>
      (fR 3 0 h10 o).bind fun v11 =>
      (fI 0 1 h10 v11).bind fun v12 =>
      some ((.inr v12, h10))
    ) else (
      some ((.inl 0, h))
    )
  )
theorem rc_X3_begin {o : Nat} {a1 : Int32} {h : Hp} {z} (hf : f_X3_begin o a1 h = some z) : rc 3 h o = some () := by
  unfold f_X3_begin at hf
  exact (bsome hf).choose_spec.1
set_option maxHeartbeats 2000000 in
set_option maxRecDepth 20000 in
theorem M_X3_begin {g : GT} {o : Nat} {a1 : Int32} {h : Hp} {r : (Nat ⊕ Int32)} {h2 : Hp} (hf : f_X3_begin o a1 h = some (r, h2)) : CM g yX3_begin cX3_begin 2 (some .int) 11 0 0 [.ref o, .int a1] h (rI r) h2 := by
  refine CM_of rfl (fun _ => Nat.le_of_ble_eq_true rfl) (fun Γ C hn0 => ?_)
  have C : Cx g Γ cX3_begin RX3 "begin" 2 (some .int) 11 (0 + er (rI r)) (0 + 6 * er (rI r)) := C
  generalize hQ : Qe g Γ (rI r) h2 0 0 = Q
  show U g Γ 2 Q 0 0 0 [(0, .ref o), (1, .int a1)] [] h
  unfold f_X3_begin at hf
  replace hf := (bsome hf).choose_spec.2
  refine U_iload_n (n := 1) 1 C dX3_begin_0 rfl rfl ?_
  refine U_iconst (n := 2) (3 : Int32) C dX3_begin_1 kiconst_3 rfl ?_
  refine U_iclt (tgt := 11) (n := 5) C dX3_begin_2 (by decide) rfl (fun c1 => ?_) (fun c1 => ?_)
  · replace hf := (if_pos c1).symm.trans hf
    obtain ⟨hr1, hr2⟩ := Prod.mk.inj (Option.some.inj hf)
    subst hr1; subst hr2
    subst hQ
    exact U_throw 0 C xown_RX3 rfl xfit_0 xcl_0 xin_0 xsr_69 xat_0 xgood_0 dX3_begin_11 dX3_begin_14 dX3_begin_15 dX3_begin_17 dX3_begin_20 (Nat.le_of_ble_eq_true rfl) (Nat.le_refl _) (Nat.le_refl _) rfl rfl
  · replace hf := (if_neg c1).symm.trans hf
    refine U_iload_n (n := 6) 1 C dX3_begin_5 rfl rfl ?_
    refine U_bipush (n := 8) (8 : Int32) C dX3_begin_6 kbipush_8 rfl ?_
    refine U_icle (tgt := 21) (n := 11) C dX3_begin_8 (by decide) rfl (fun c2 => ?_) (fun c2 => ?_)
    · replace hf := (if_pos c2).symm.trans hf
      refine U_aload_n (n := 22) 0 C dX3_begin_21 rfl rfl rfl ?_
      obtain ⟨h4, ev3, hf⟩ := bsome hf
      refine cv_RX3_74 (n := 25) C dX3_begin_22 (av := []) rfl (rc_X3_save ev3) (M_X3_save ev3) (Nat.le_of_ble_eq_true rfl) (Nat.zero_le _) (Nat.zero_le _) (Nat.le_of_ble_eq_true rfl) rfl ?_
      refine U_aload_n (n := 26) 0 C dX3_begin_25 rfl rfl rfl ?_
      refine gf_RX3_19 (n := 29) C dX3_begin_26 hf rfl (fun v5 hf => ?_)
      refine U_iload_n (n := 30) 1 C dX3_begin_29 rfl rfl ?_
      obtain ⟨h7, ev6, hf⟩ := bsome hf
      refine cv_RX3_60 (n := 33) C dX3_begin_30 (av := [.int a1]) rfl (rc_X2_clearFor ev6) (M_X2_clearFor ev6) (Nat.le_of_ble_eq_true rfl) (Nat.zero_le _) (Nat.zero_le _) (Nat.le_of_ble_eq_true rfl) rfl ?_
      refine U_aload_n (n := 34) 0 C dX3_begin_33 rfl rfl rfl ?_
      refine gf_RX3_10 (n := 37) C dX3_begin_34 hf rfl (fun v8 hf => ?_)
      refine U_iload_n (n := 38) 1 C dX3_begin_37 rfl rfl ?_
      obtain ⟨h10, ev9, hf⟩ := bsome hf
      refine cv_RX3_64 (n := 41) C dX3_begin_38 (av := [.int a1]) rfl (rc_X0_arrange ev9) (M_X0_arrange ev9) (Nat.le_of_ble_eq_true rfl) (Nat.zero_le _) (Nat.zero_le _) (Nat.le_of_ble_eq_true rfl) rfl ?_
      refine U_aload_n (n := 42) 0 C dX3_begin_41 rfl rfl rfl ?_
      refine gf_RX3_10 (n := 45) C dX3_begin_42 hf rfl (fun v11 hf => ?_)
      refine gf_RX3_77 (n := 48) C dX3_begin_45 hf rfl (fun v12 hf => ?_)
      obtain ⟨hr1, hr2⟩ := Prod.mk.inj (Option.some.inj hf)
      subst hr1; subst hr2
      subst hQ
      exact U_iret C dX3_begin_48 (Nat.le_refl 0) (Nat.le_refl 0)
    · replace hf := (if_neg c2).symm.trans hf
      obtain ⟨hr1, hr2⟩ := Prod.mk.inj (Option.some.inj hf)
      subst hr1; subst hr2
      subst hQ
      exact U_throw 0 C xown_RX3 rfl xfit_0 xcl_0 xin_0 xsr_69 xat_0 xgood_0 dX3_begin_11 dX3_begin_14 dX3_begin_15 dX3_begin_17 dX3_begin_20 (Nat.le_of_ble_eq_true rfl) (Nat.le_refl _) (Nat.le_refl _) rfl rfl
def f_X3_isPoint (o : Nat) (a1 : Int32) (h : Hp) : Option Int32 :=
  (rc 3 h o).bind fun _ =>
  if a1 < 0 then (
    some ((0 : Int32))
  ) else (
    (fR 3 0 h o).bind fun v2 =>
    (fI 0 0 h v2).bind fun v3 =>
    if v3 ≤ a1 then (
      some ((0 : Int32))
    ) else (
      some ((1 : Int32))
    )
  )
theorem rc_X3_isPoint {o : Nat} {a1 : Int32} {h : Hp} {z} (hf : f_X3_isPoint o a1 h = some z) : rc 3 h o = some () := by
  unfold f_X3_isPoint at hf
  exact (bsome hf).choose_spec.1
set_option maxHeartbeats 2000000 in
set_option maxRecDepth 20000 in
theorem M_X3_isPoint {g : GT} {o : Nat} {a1 : Int32} {h : Hp} {r : Int32} (hf : f_X3_isPoint o a1 h = some r) : CM g yX3_isPoint cX3_isPoint 2 (some .boolean) 6 0 0 [.ref o, .int a1] h (.inr (some (.int r))) h := by
  refine CM_of rfl (fun _ => Nat.le_of_ble_eq_true rfl) (fun Γ C hn0 => ?_)
  have C : Cx g Γ cX3_isPoint RX3 "isPoint" 2 (some .boolean) 6 0 0 := C
  generalize hQ : Qe g Γ (.inr (some (.int r))) h 0 0 = Q
  show U g Γ 2 Q 0 0 0 [(0, .ref o), (1, .int a1)] [] h
  unfold f_X3_isPoint at hf
  replace hf := (bsome hf).choose_spec.2
  refine U_iload_n (n := 1) 1 C dX3_isPoint_0 rfl rfl ?_
  refine U_iflt (tgt := 19) (n := 4) C dX3_isPoint_1 (by decide) rfl (fun c1 => ?_) (fun c1 => ?_)
  · replace hf := (if_pos c1).symm.trans hf
    refine U_iconst (n := 20) (0 : Int32) C dX3_isPoint_19 kiconst_0 rfl ?_
    have hr := (Option.some.inj hf)
    subst hr
    subst hQ
    exact U_zret C dX3_isPoint_20 (Or.inl rfl) (Nat.le_refl 0) (Nat.le_refl 0)
  · replace hf := (if_neg c1).symm.trans hf
    refine U_iload_n (n := 5) 1 C dX3_isPoint_4 rfl rfl ?_
    refine U_aload_n (n := 6) 0 C dX3_isPoint_5 rfl rfl rfl ?_
    refine gf_RX3_10 (n := 9) C dX3_isPoint_6 hf rfl (fun v2 hf => ?_)
    refine gf_RX3_163 (n := 12) C dX3_isPoint_9 hf rfl (fun v3 hf => ?_)
    refine U_icge (tgt := 19) (n := 15) C dX3_isPoint_12 (by decide) rfl (fun c4 => ?_) (fun c4 => ?_)
    · replace hf := (if_pos c4).symm.trans hf
      refine U_iconst (n := 20) (0 : Int32) C dX3_isPoint_19 kiconst_0 rfl ?_
      have hr := (Option.some.inj hf)
      subst hr
      subst hQ
      exact U_zret C dX3_isPoint_20 (Or.inl rfl) (Nat.le_refl 0) (Nat.le_refl 0)
    · replace hf := (if_neg c4).symm.trans hf
      refine U_iconst (n := 16) (1 : Int32) C dX3_isPoint_15 kiconst_1 rfl ?_
      refine U_goto (n := 0) (tgt := 20) C dX3_isPoint_16 (by decide) ?_
      have hr := (Option.some.inj hf)
      subst hr
      subst hQ
      exact U_zret C dX3_isPoint_20 (Or.inr rfl) (Nat.le_refl 0) (Nat.le_refl 0)
def f_X3_requirePoint (o : Nat) (a1 : Int32) (h : Hp) : Option (Nat ⊕ Unit) :=
  (rc 3 h o).bind fun _ =>
  (f_X3_isPoint o a1 h).bind fun v1 =>
  if v1 = 0 then (
    some (.inl 1)
  ) else (
    some (.inr ())
  )
theorem rc_X3_requirePoint {o : Nat} {a1 : Int32} {h : Hp} {z} (hf : f_X3_requirePoint o a1 h = some z) : rc 3 h o = some () := by
  unfold f_X3_requirePoint at hf
  exact (bsome hf).choose_spec.1
set_option maxHeartbeats 2000000 in
set_option maxRecDepth 20000 in
theorem M_X3_requirePoint {g : GT} {o : Nat} {a1 : Int32} {h : Hp} {r : (Nat ⊕ Unit)} (hf : f_X3_requirePoint o a1 h = some r) : CM g yX3_requirePoint cX3_requirePoint 2 none 7 0 0 [.ref o, .int a1] h (rV r) h := by
  refine CM_of rfl (fun _ => Nat.le_of_ble_eq_true rfl) (fun Γ C hn0 => ?_)
  have C : Cx g Γ cX3_requirePoint RX3 "requirePoint" 2 none 7 (0 + er (rV r)) (0 + 6 * er (rV r)) := C
  generalize hQ : Qe g Γ (rV r) h 0 0 = Q
  show U g Γ 2 Q 0 0 0 [(0, .ref o), (1, .int a1)] [] h
  unfold f_X3_requirePoint at hf
  replace hf := (bsome hf).choose_spec.2
  refine U_aload_n (n := 1) 0 C dX3_requirePoint_0 rfl rfl rfl ?_
  refine U_iload_n (n := 2) 1 C dX3_requirePoint_1 rfl rfl ?_
  obtain ⟨v1, ev1, hf⟩ := bsome hf
  refine cv_RX3_318 (n := 5) C dX3_requirePoint_2 (av := [.int a1]) rfl (rc_X3_isPoint ev1) (M_X3_isPoint ev1) (Nat.le_of_ble_eq_true rfl) (Nat.zero_le _) (Nat.zero_le _) (Nat.le_of_ble_eq_true rfl) rfl ?_
  refine U_ifne (tgt := 19) (n := 8) C dX3_requirePoint_5 (by decide) rfl (fun c2 => ?_) (fun c2 => ?_)
  · replace hf := (if_pos c2).symm.trans hf
    have hr := (Option.some.inj hf)
    subst hr
    subst hQ
    exact U_throwW 1 C xown_RX3 rfl xfit_1 xcl_1 xin_1 xsr_323 xat_1 xgood_1 dX3_requirePoint_8 dX3_requirePoint_11 dX3_requirePoint_12 dX3_requirePoint_15 dX3_requirePoint_18 (Nat.le_of_ble_eq_true rfl) (Nat.le_refl _) (Nat.le_refl _) rfl rfl
  · replace hf := (if_neg c2).symm.trans hf
    have hr := (Option.some.inj hf)
    subst hr
    subst hQ
    exact U_vret C dX3_requirePoint_19 (Nat.le_refl 0) (Nat.le_refl 0)
def f_X3_areDistinct (a0 : Int32) (a1 : Int32) (a2 : Int32) : Option Int32 :=
  if a0 = a1 then (
    some ((0 : Int32))
  ) else (
    if a0 = a2 then (
      some ((0 : Int32))
    ) else (
      if a1 = a2 then (
        some ((0 : Int32))
      ) else (
        some ((1 : Int32))
      )
    )
  )
set_option maxHeartbeats 2000000 in
set_option maxRecDepth 20000 in
theorem M_X3_areDistinct {g : GT} {a0 : Int32} {a1 : Int32} {a2 : Int32} {h : Hp} {r : Int32} (hf : f_X3_areDistinct a0 a1 a2 = some r) : CM g yX3_areDistinct cX3_areDistinct 3 (some .boolean) 6 0 0 [.int a0, .int a1, .int a2] h (.inr (some (.int r))) h := by
  refine CM_of rfl (fun _ => Nat.le_of_ble_eq_true rfl) (fun Γ C hn0 => ?_)
  have C : Cx g Γ cX3_areDistinct RX3 "areDistinct" 3 (some .boolean) 6 0 0 := C
  generalize hQ : Qe g Γ (.inr (some (.int r))) h 0 0 = Q
  show U g Γ 3 Q 0 0 0 [(0, .int a0), (1, .int a1), (2, .int a2)] [] h
  unfold f_X3_areDistinct at hf
  refine U_iload_n (n := 1) 0 C dX3_areDistinct_0 rfl rfl ?_
  refine U_iload_n (n := 2) 1 C dX3_areDistinct_1 rfl rfl ?_
  refine U_iceq (tgt := 19) (n := 5) C dX3_areDistinct_2 (by decide) rfl (fun c1 => ?_) (fun c1 => ?_)
  · replace hf := (if_pos c1).symm.trans hf
    refine U_iconst (n := 20) (0 : Int32) C dX3_areDistinct_19 kiconst_0 rfl ?_
    have hr := (Option.some.inj hf)
    subst hr
    subst hQ
    exact U_zret C dX3_areDistinct_20 (Or.inl rfl) (Nat.le_refl 0) (Nat.le_refl 0)
  · replace hf := (if_neg c1).symm.trans hf
    refine U_iload_n (n := 6) 0 C dX3_areDistinct_5 rfl rfl ?_
    refine U_iload_n (n := 7) 2 C dX3_areDistinct_6 rfl rfl ?_
    refine U_iceq (tgt := 19) (n := 10) C dX3_areDistinct_7 (by decide) rfl (fun c2 => ?_) (fun c2 => ?_)
    · replace hf := (if_pos c2).symm.trans hf
      refine U_iconst (n := 20) (0 : Int32) C dX3_areDistinct_19 kiconst_0 rfl ?_
      have hr := (Option.some.inj hf)
      subst hr
      subst hQ
      exact U_zret C dX3_areDistinct_20 (Or.inl rfl) (Nat.le_refl 0) (Nat.le_refl 0)
    · replace hf := (if_neg c2).symm.trans hf
      refine U_iload_n (n := 11) 1 C dX3_areDistinct_10 rfl rfl ?_
      refine U_iload_n (n := 12) 2 C dX3_areDistinct_11 rfl rfl ?_
      refine U_iceq (tgt := 19) (n := 15) C dX3_areDistinct_12 (by decide) rfl (fun c3 => ?_) (fun c3 => ?_)
      · replace hf := (if_pos c3).symm.trans hf
        refine U_iconst (n := 20) (0 : Int32) C dX3_areDistinct_19 kiconst_0 rfl ?_
        have hr := (Option.some.inj hf)
        subst hr
        subst hQ
        exact U_zret C dX3_areDistinct_20 (Or.inl rfl) (Nat.le_refl 0) (Nat.le_refl 0)
      · replace hf := (if_neg c3).symm.trans hf
        refine U_iconst (n := 16) (1 : Int32) C dX3_areDistinct_15 kiconst_1 rfl ?_
        refine U_goto (n := 0) (tgt := 20) C dX3_areDistinct_16 (by decide) ?_
        have hr := (Option.some.inj hf)
        subst hr
        subst hQ
        exact U_zret C dX3_areDistinct_20 (Or.inr rfl) (Nat.le_refl 0) (Nat.le_refl 0)
def f_X3_requireDistinct (a0 : Int32) (a1 : Int32) (a2 : Int32) : Option (Nat ⊕ Unit) :=
  (f_X3_areDistinct a0 a1 a2).bind fun v1 =>
  if v1 = 0 then (
    some (.inl 0)
  ) else (
    some (.inr ())
  )
set_option maxHeartbeats 2000000 in
set_option maxRecDepth 20000 in
theorem M_X3_requireDistinct {g : GT} {a0 : Int32} {a1 : Int32} {a2 : Int32} {h : Hp} {r : (Nat ⊕ Unit)} (hf : f_X3_requireDistinct a0 a1 a2 = some r) : CM g yX3_requireDistinct cX3_requireDistinct 3 none 7 0 0 [.int a0, .int a1, .int a2] h (rV r) h := by
  refine CM_of rfl (fun _ => Nat.le_of_ble_eq_true rfl) (fun Γ C hn0 => ?_)
  have C : Cx g Γ cX3_requireDistinct RX3 "requireDistinct" 3 none 7 (0 + er (rV r)) (0 + 6 * er (rV r)) := C
  generalize hQ : Qe g Γ (rV r) h 0 0 = Q
  show U g Γ 3 Q 0 0 0 [(0, .int a0), (1, .int a1), (2, .int a2)] [] h
  unfold f_X3_requireDistinct at hf
  refine U_iload_n (n := 1) 0 C dX3_requireDistinct_0 rfl rfl ?_
  refine U_iload_n (n := 2) 1 C dX3_requireDistinct_1 rfl rfl ?_
  refine U_iload_n (n := 3) 2 C dX3_requireDistinct_2 rfl rfl ?_
  obtain ⟨v1, ev1, hf⟩ := bsome hf
  refine cv_RX3_330 (n := 6) C dX3_requireDistinct_3 (av := [.int a0, .int a1, .int a2]) rfl (M_X3_areDistinct ev1) (Nat.le_of_ble_eq_true rfl) (Nat.zero_le _) (Nat.zero_le _) (Nat.le_of_ble_eq_true rfl) rfl ?_
  refine U_ifne (tgt := 20) (n := 9) C dX3_requireDistinct_6 (by decide) rfl (fun c2 => ?_) (fun c2 => ?_)
  · replace hf := (if_pos c2).symm.trans hf
    have hr := (Option.some.inj hf)
    subst hr
    subst hQ
    exact U_throwW 0 C xown_RX3 rfl xfit_0 xcl_0 xin_0 xsr_334 xat_0 xgood_0 dX3_requireDistinct_9 dX3_requireDistinct_12 dX3_requireDistinct_13 dX3_requireDistinct_16 dX3_requireDistinct_19 (Nat.le_of_ble_eq_true rfl) (Nat.le_refl _) (Nat.le_refl _) rfl rfl
  · replace hf := (if_neg c2).symm.trans hf
    have hr := (Option.some.inj hf)
    subst hr
    subst hQ
    exact U_vret C dX3_requireDistinct_20 (Nat.le_refl 0) (Nat.le_refl 0)
def f_X3_orderedSign (o : Nat) (a1 : Int32) (a2 : Int32) (a3 : Int32) (h : Hp) : Option Int32 :=
  (rc 3 h o).bind fun _ =>
  (fR 3 0 h o).bind fun v1 =>
  (f_X0_parity v1 a1 a2 a3 h).bind fun v2 =>
  if v2 = 0 then (
    some ((0 : Int32))
  ) else (
    (fR 3 1 h o).bind fun v4 =>
    (fR 2 3 h v4).bind fun v5 =>
    (fR 3 0 h o).bind fun v6 =>
    (f_X0_numberOf v6 a1 a2 a3 h).bind fun v7 =>
    (aI h v5 v7).bind fun v8 =>
    if v8 = (-100 : Int32) then (
      some ((-100 : Int32))
    ) else (
      some ((v2 * v8))
    )
  )
theorem rc_X3_orderedSign {o : Nat} {a1 : Int32} {a2 : Int32} {a3 : Int32} {h : Hp} {z} (hf : f_X3_orderedSign o a1 a2 a3 h = some z) : rc 3 h o = some () := by
  unfold f_X3_orderedSign at hf
  exact (bsome hf).choose_spec.1
set_option maxHeartbeats 2000000 in
set_option maxRecDepth 20000 in
theorem M_X3_orderedSign {g : GT} {o : Nat} {a1 : Int32} {a2 : Int32} {a3 : Int32} {h : Hp} {r : Int32} (hf : f_X3_orderedSign o a1 a2 a3 h = some r) : CM g yX3_orderedSign cX3_orderedSign 6 (some .int) 8 0 0 [.ref o, .int a1, .int a2, .int a3] h (.inr (some (.int r))) h := by
  refine CM_of rfl (fun _ => Nat.le_of_ble_eq_true rfl) (fun Γ C hn0 => ?_)
  have C : Cx g Γ cX3_orderedSign RX3 "orderedSign" 6 (some .int) 8 0 0 := C
  generalize hQ : Qe g Γ (.inr (some (.int r))) h 0 0 = Q
  show U g Γ 6 Q 0 0 0 [(0, .ref o), (1, .int a1), (2, .int a2), (3, .int a3)] [] h
  unfold f_X3_orderedSign at hf
  replace hf := (bsome hf).choose_spec.2
  refine U_aload_n (n := 1) 0 C dX3_orderedSign_0 rfl rfl rfl ?_
  refine gf_RX3_10 (n := 4) C dX3_orderedSign_1 hf rfl (fun v1 hf => ?_)
  refine U_iload_n (n := 5) 1 C dX3_orderedSign_4 rfl rfl ?_
  refine U_iload_n (n := 6) 2 C dX3_orderedSign_5 rfl rfl ?_
  refine U_iload_n (n := 7) 3 C dX3_orderedSign_6 rfl rfl ?_
  obtain ⟨v2, ev2, hf⟩ := bsome hf
  refine cv_RX3_336 (n := 10) C dX3_orderedSign_7 (av := [.int a1, .int a2, .int a3]) rfl (rc_X0_parity ev2) (M_X0_parity ev2) (Nat.le_of_ble_eq_true rfl) (Nat.zero_le _) (Nat.zero_le _) (Nat.le_of_ble_eq_true rfl) rfl ?_
  refine U_istore (n := 12) (lv2 := [(4, .int v2), (0, .ref o), (1, .int a1), (2, .int a2), (3, .int a3)]) C dX3_orderedSign_10 (by decide) rfl rfl ?_
  refine U_iload (n := 14) 0 C dX3_orderedSign_12 rfl rfl ?_
  refine U_ifne (tgt := 19) (n := 17) C dX3_orderedSign_14 (by decide) rfl (fun c3 => ?_) (fun c3 => ?_)
  · replace hf := (if_pos c3).symm.trans hf
    refine U_iconst (n := 18) (0 : Int32) C dX3_orderedSign_17 kiconst_0 rfl ?_
    have hr := (Option.some.inj hf)
    subst hr
    subst hQ
    exact U_iret C dX3_orderedSign_18 (Nat.le_refl 0) (Nat.le_refl 0)
  · replace hf := (if_neg c3).symm.trans hf
    refine U_aload_n (n := 20) 1 C dX3_orderedSign_19 rfl rfl rfl ?_
    refine gf_RX3_19 (n := 23) C dX3_orderedSign_20 hf rfl (fun v4 hf => ?_)
    refine gf_RX3_129 (n := 26) C dX3_orderedSign_23 hf rfl (fun v5 hf => ?_)
    refine U_aload_n (n := 27) 1 C dX3_orderedSign_26 rfl rfl rfl ?_
    refine gf_RX3_10 (n := 30) C dX3_orderedSign_27 hf rfl (fun v6 hf => ?_)
    refine U_iload_n (n := 31) 2 C dX3_orderedSign_30 rfl rfl ?_
    refine U_iload_n (n := 32) 3 C dX3_orderedSign_31 rfl rfl ?_
    refine U_iload_n (n := 33) 4 C dX3_orderedSign_32 rfl rfl ?_
    obtain ⟨v7, ev7, hf⟩ := bsome hf
    refine cv_RX3_97 (n := 36) C dX3_orderedSign_33 (av := [.int a1, .int a2, .int a3]) rfl (rc_X0_numberOf ev7) (M_X0_numberOf ev7) (Nat.le_of_ble_eq_true rfl) (Nat.zero_le _) (Nat.zero_le _) (Nat.le_of_ble_eq_true rfl) rfl ?_
    refine U_iald (n := 37) C dX3_orderedSign_36 hf rfl (fun v8 hf => ?_)
    refine U_istore (n := 39) (lv2 := [(5, .int v8), (4, .int v2), (0, .ref o), (1, .int a1), (2, .int a2), (3, .int a3)]) C dX3_orderedSign_37 (by decide) rfl rfl ?_
    refine U_iload (n := 41) 0 C dX3_orderedSign_39 rfl rfl ?_
    refine U_bipush (n := 43) (-100 : Int32) C dX3_orderedSign_41 kbipush_m100 rfl ?_
    refine U_icne (tgt := 51) (n := 46) C dX3_orderedSign_43 (by decide) rfl (fun c9 => ?_) (fun c9 => ?_)
    · replace hf := (if_pos c9).symm.trans hf
      refine U_bipush (n := 48) (-100 : Int32) C dX3_orderedSign_46 kbipush_m100 rfl ?_
      refine U_goto (n := 0) (tgt := 56) C dX3_orderedSign_48 (by decide) ?_
      have hr := (Option.some.inj hf)
      subst hr
      subst hQ
      exact U_iret C dX3_orderedSign_56 (Nat.le_refl 0) (Nat.le_refl 0)
    · replace hf := (if_neg c9).symm.trans hf
      refine U_iload (n := 53) 1 C dX3_orderedSign_51 rfl rfl ?_
      refine U_iload (n := 55) 0 C dX3_orderedSign_53 rfl rfl ?_
      refine U_imul (n := 56) C dX3_orderedSign_55 rfl ?_
      have hr := (Option.some.inj hf)
      subst hr
      subst hQ
      exact U_iret C dX3_orderedSign_56 (Nat.le_refl 0) (Nat.le_refl 0)
def f_X3_giveTriple (o : Nat) (a1 : Int32) (a2 : Int32) (h : Hp) : Option Hp :=
  (rc 3 h o).bind fun _ =>
  (fR 3 1 h o).bind fun v1 =>
  (fR 2 4 h v1).bind fun v2 =>
  (aI h v2 a1).bind fun v3 =>
  bindR0 (
    if v3 = (1 : Int32) then (
      (fR 3 1 h o).bind fun v24 =>
      (fR 2 3 h v24).bind fun v25 =>
      (aI h v25 a1).bind fun v26 =>
      if v26 = a2 then (
        some (.inr (h))
      ) else (
        some (Sum.inl ())
      )
    ) else (
      some (Sum.inl ())
    )
  ) fun _ =>
  (fR 3 1 h o).bind fun v8 =>
  (fR 2 4 h v8).bind fun v9 =>
  (aI h v9 a1).bind fun v10 =>
  (
    if v10 = 0 then (
      (fR 3 1 h o).bind fun v19 =>
      (sF 2 2 (.int (-100 : Int32)) h v19).bind fun h20 =>
      some h20
    ) else (
      (fR 3 1 h o).bind fun v21 =>
      bind2 (f_X2_forgetDerived v21 h) fun v22 h23 =>
      some h23
    )
  ).bind fun h12 =>
  (fR 3 1 h12 o).bind fun v16 =>
  (f_X2_setGiven v16 a1 a2 h12).bind fun h18 =>
  some (h18)
theorem rc_X3_giveTriple {o : Nat} {a1 : Int32} {a2 : Int32} {h : Hp} {z} (hf : f_X3_giveTriple o a1 a2 h = some z) : rc 3 h o = some () := by
  unfold f_X3_giveTriple at hf
  exact (bsome hf).choose_spec.1
set_option maxHeartbeats 2000000 in
set_option maxRecDepth 20000 in
theorem M_X3_giveTriple {g : GT} {o : Nat} {a1 : Int32} {a2 : Int32} {h : Hp} {h2 : Hp} (hf : f_X3_giveTriple o a1 a2 h = some h2) : CM g yX3_giveTriple cX3_giveTriple 3 none 8 0 0 [.ref o, .int a1, .int a2] h (.inr none) h2 := by
  refine CM_of rfl (fun _ => Nat.le_of_ble_eq_true rfl) (fun Γ C hn0 => ?_)
  have C : Cx g Γ cX3_giveTriple RX3 "giveTriple" 3 none 8 0 0 := C
  generalize hQ : Qe g Γ (.inr none) h2 0 0 = Q
  show U g Γ 3 Q 0 0 0 [(0, .ref o), (1, .int a1), (2, .int a2)] [] h
  unfold f_X3_giveTriple at hf
  replace hf := (bsome hf).choose_spec.2
  refine U_aload_n (n := 1) 0 C dX3_giveTriple_0 rfl rfl rfl ?_
  refine gf_RX3_19 (n := 4) C dX3_giveTriple_1 hf rfl (fun v1 hf => ?_)
  refine gf_RX3_100 (n := 7) C dX3_giveTriple_4 hf rfl (fun v2 hf => ?_)
  refine U_iload_n (n := 8) 1 C dX3_giveTriple_7 rfl rfl ?_
  refine U_iald (n := 9) C dX3_giveTriple_8 hf rfl (fun v3 hf => ?_)
  refine U_iconst (n := 10) (1 : Int32) C dX3_giveTriple_9 kiconst_1 rfl ?_
  refine U_joinR0 (U g Γ 3 Q 0 0 27 [(0, .ref o), (1, .int a1), (2, .int a2)] [] h) hf (fun hf => ?_) (fun o5 hf J6 R7 => ?_)
  · skip
    refine U_aload_n (n := 28) 0 C dX3_giveTriple_27 rfl rfl rfl ?_
    refine gf_RX3_19 (n := 31) C dX3_giveTriple_28 hf rfl (fun v8 hf => ?_)
    refine gf_RX3_100 (n := 34) C dX3_giveTriple_31 hf rfl (fun v9 hf => ?_)
    refine U_iload_n (n := 35) 1 C dX3_giveTriple_34 rfl rfl ?_
    refine U_iald (n := 36) C dX3_giveTriple_35 hf rfl (fun v10 hf => ?_)
    refine U_join1 (fun h12 => U g Γ 3 Q 0 0 59 [(0, .ref o), (1, .int a1), (2, .int a2)] [] h12) hf (fun h12 hf => ?_) (fun h12 hf J14 => ?_)
    · skip
      refine U_aload_n (n := 60) 0 C dX3_giveTriple_59 rfl rfl rfl ?_
      refine gf_RX3_19 (n := 63) C dX3_giveTriple_60 hf rfl (fun v16 hf => ?_)
      refine U_iload_n (n := 64) 1 C dX3_giveTriple_63 rfl rfl ?_
      refine U_iload_n (n := 65) 2 C dX3_giveTriple_64 rfl rfl ?_
      obtain ⟨h18, ev17, hf⟩ := bsome hf
      refine cv_RX3_339 (n := 68) C dX3_giveTriple_65 (av := [.int a1, .int a2]) rfl (rc_X2_setGiven ev17) (M_X2_setGiven ev17) (Nat.le_of_ble_eq_true rfl) (Nat.zero_le _) (Nat.zero_le _) (Nat.le_of_ble_eq_true rfl) rfl ?_
      have hr := (Option.some.inj hf)
      subst hr
      subst hQ
      exact U_vret C dX3_giveTriple_68 (Nat.le_refl 0) (Nat.le_refl 0)
    · skip
      refine U_ifne (tgt := 51) (n := 39) C dX3_giveTriple_36 (by decide) rfl (fun c11 => ?_) (fun c11 => ?_)
      · replace hf := (if_pos c11).symm.trans hf
        refine U_aload_n (n := 40) 0 C dX3_giveTriple_39 rfl rfl rfl ?_
        refine gf_RX3_19 (n := 43) C dX3_giveTriple_40 hf rfl (fun v19 hf => ?_)
        refine U_bipush (n := 45) (-100 : Int32) C dX3_giveTriple_43 kbipush_m100 rfl ?_
        refine pf_RX3_175 (n := 48) C dX3_giveTriple_45 hf rfl (fun h20 hf => ?_)
        refine U_goto (n := 0) (tgt := 59) C dX3_giveTriple_48 (by decide) ?_
        have hr := Option.some.inj hf
        subst hr
        exact U_lv [0, 1, 2] rfl J14
      · replace hf := (if_neg c11).symm.trans hf
        refine U_aload_n (n := 52) 0 C dX3_giveTriple_51 rfl rfl rfl ?_
        refine gf_RX3_19 (n := 55) C dX3_giveTriple_52 hf rfl (fun v21 hf => ?_)
        obtain ⟨v22, h23, ev22, hf⟩ := bsome2 hf
        refine cv_RX3_115 (n := 58) C dX3_giveTriple_55 (av := []) rfl (rc_X2_forgetDerived ev22) (M_X2_forgetDerived ev22) (Nat.le_of_ble_eq_true rfl) (Nat.zero_le _) (Nat.zero_le _) (Nat.le_of_ble_eq_true rfl) rfl ?_
        refine U_pop (n := 59) C dX3_giveTriple_58 rfl rfl ?_
        have hr := Option.some.inj hf
        subst hr
        exact U_lv [0, 1, 2] rfl J14
  · skip
    refine U_icne (tgt := 27) (n := 13) C dX3_giveTriple_10 (by decide) rfl (fun c4 => ?_) (fun c4 => ?_)
    · replace hf := (if_pos c4).symm.trans hf
      refine U_aload_n (n := 14) 0 C dX3_giveTriple_13 rfl rfl rfl ?_
      refine gf_RX3_19 (n := 17) C dX3_giveTriple_14 hf rfl (fun v24 hf => ?_)
      refine gf_RX3_129 (n := 20) C dX3_giveTriple_17 hf rfl (fun v25 hf => ?_)
      refine U_iload_n (n := 21) 1 C dX3_giveTriple_20 rfl rfl ?_
      refine U_iald (n := 22) C dX3_giveTriple_21 hf rfl (fun v26 hf => ?_)
      refine U_iload_n (n := 23) 2 C dX3_giveTriple_22 rfl rfl ?_
      refine U_icne (tgt := 27) (n := 26) C dX3_giveTriple_23 (by decide) rfl (fun c27 => ?_) (fun c27 => ?_)
      · replace hf := (if_pos c27).symm.trans hf
        have hr := Option.some.inj hf
        subst hr
        have hr := (R7 _ rfl)
        subst hr
        subst hQ
        exact U_vret C dX3_giveTriple_26 (Nat.le_refl 0) (Nat.le_refl 0)
      · replace hf := (if_neg c27).symm.trans hf
        have hr := Option.some.inj hf
        subst hr
        exact U_lv [0, 1, 2] rfl (J6 rfl)
    · replace hf := (if_neg c4).symm.trans hf
      have hr := Option.some.inj hf
      subst hr
      exact U_lv [0, 1, 2] rfl (J6 rfl)
def f_X3_giveOrdered (o : Nat) (a1 : Int32) (a2 : Int32) (a3 : Int32) (a4 : Int32) (h : Hp) : Option Hp :=
  (rc 3 h o).bind fun _ =>
  (fR 3 0 h o).bind fun v1 =>
  (f_X0_numberOf v1 a1 a2 a3 h).bind fun v2 =>
  (fR 3 0 h o).bind fun v3 =>
  (f_X0_parity v3 a1 a2 a3 h).bind fun v4 =>
  (f_X3_giveTriple o v2 (v4 * a4) h).bind fun h6 =>
  some (h6)
theorem rc_X3_giveOrdered {o : Nat} {a1 : Int32} {a2 : Int32} {a3 : Int32} {a4 : Int32} {h : Hp} {z} (hf : f_X3_giveOrdered o a1 a2 a3 a4 h = some z) : rc 3 h o = some () := by
  unfold f_X3_giveOrdered at hf
  exact (bsome hf).choose_spec.1
set_option maxHeartbeats 2000000 in
set_option maxRecDepth 20000 in
theorem M_X3_giveOrdered {g : GT} {o : Nat} {a1 : Int32} {a2 : Int32} {a3 : Int32} {a4 : Int32} {h : Hp} {h2 : Hp} (hf : f_X3_giveOrdered o a1 a2 a3 a4 h = some h2) : CM g yX3_giveOrdered cX3_giveOrdered 5 none 9 0 0 [.ref o, .int a1, .int a2, .int a3, .int a4] h (.inr none) h2 := by
  refine CM_of rfl (fun _ => Nat.le_of_ble_eq_true rfl) (fun Γ C hn0 => ?_)
  have C : Cx g Γ cX3_giveOrdered RX3 "giveOrdered" 5 none 9 0 0 := C
  generalize hQ : Qe g Γ (.inr none) h2 0 0 = Q
  show U g Γ 5 Q 0 0 0 [(0, .ref o), (1, .int a1), (2, .int a2), (3, .int a3), (4, .int a4)] [] h
  unfold f_X3_giveOrdered at hf
  replace hf := (bsome hf).choose_spec.2
  refine U_aload_n (n := 1) 0 C dX3_giveOrdered_0 rfl rfl rfl ?_
  refine U_aload_n (n := 2) 0 C dX3_giveOrdered_1 rfl rfl rfl ?_
  refine gf_RX3_10 (n := 5) C dX3_giveOrdered_2 hf rfl (fun v1 hf => ?_)
  refine U_iload_n (n := 6) 1 C dX3_giveOrdered_5 rfl rfl ?_
  refine U_iload_n (n := 7) 2 C dX3_giveOrdered_6 rfl rfl ?_
  refine U_iload_n (n := 8) 3 C dX3_giveOrdered_7 rfl rfl ?_
  obtain ⟨v2, ev2, hf⟩ := bsome hf
  refine cv_RX3_97 (n := 11) C dX3_giveOrdered_8 (av := [.int a1, .int a2, .int a3]) rfl (rc_X0_numberOf ev2) (M_X0_numberOf ev2) (Nat.le_of_ble_eq_true rfl) (Nat.zero_le _) (Nat.zero_le _) (Nat.le_of_ble_eq_true rfl) rfl ?_
  refine U_aload_n (n := 12) 0 C dX3_giveOrdered_11 rfl rfl rfl ?_
  refine gf_RX3_10 (n := 15) C dX3_giveOrdered_12 hf rfl (fun v3 hf => ?_)
  refine U_iload_n (n := 16) 1 C dX3_giveOrdered_15 rfl rfl ?_
  refine U_iload_n (n := 17) 2 C dX3_giveOrdered_16 rfl rfl ?_
  refine U_iload_n (n := 18) 3 C dX3_giveOrdered_17 rfl rfl ?_
  obtain ⟨v4, ev4, hf⟩ := bsome hf
  refine cv_RX3_336 (n := 21) C dX3_giveOrdered_18 (av := [.int a1, .int a2, .int a3]) rfl (rc_X0_parity ev4) (M_X0_parity ev4) (Nat.le_of_ble_eq_true rfl) (Nat.zero_le _) (Nat.zero_le _) (Nat.le_of_ble_eq_true rfl) rfl ?_
  refine U_iload (n := 23) 4 C dX3_giveOrdered_21 rfl rfl ?_
  refine U_imul (n := 24) C dX3_giveOrdered_23 rfl ?_
  obtain ⟨h6, ev5, hf⟩ := bsome hf
  refine cv_RX3_226 (n := 27) C dX3_giveOrdered_24 (av := [.int v2, .int (v4 * a4)]) rfl (rc_X3_giveTriple ev5) (M_X3_giveTriple ev5) (Nat.le_of_ble_eq_true rfl) (Nat.zero_le _) (Nat.zero_le _) (Nat.le_of_ble_eq_true rfl) rfl ?_
  have hr := (Option.some.inj hf)
  subst hr
  subst hQ
  exact U_vret C dX3_giveOrdered_27 (Nat.le_refl 0) (Nat.le_refl 0)
def f_X3_give (o : Nat) (a1 : Int32) (a2 : Int32) (a3 : Int32) (a4 : Int32) (h : Hp) : Option ((Nat ⊕ Int32) × Hp) :=
  (rc 3 h o).bind fun _ =>
  bindT (f_X3_requirePoint o a1 h) (fun kv1 => some ((.inl kv1, h))) fun v1 =>
  bindT (f_X3_requirePoint o a2 h) (fun kv2 => some ((.inl kv2, h))) fun v2 =>
  bindT (f_X3_requirePoint o a3 h) (fun kv3 => some ((.inl kv3, h))) fun v3 =>
  bindT (f_X3_requireDistinct a1 a2 a3) (fun kv4 => some ((.inl kv4, h))) fun v4 =>
  if a4 < (-1 : Int32) then (
    some ((.inl 0, h))
  ) else (
    if a4 ≤ (1 : Int32) then (
      (f_X3_orderedSign o a1 a2 a3 h).bind fun v7 =>
      (f_X3_save o h).bind fun h9 =>
      (f_X3_giveOrdered o a1 a2 a3 a4 h9).bind fun h11 =>
      some ((.inr v7, h11))
    ) else (
      some ((.inl 0, h))
    )
  )
theorem rc_X3_give {o : Nat} {a1 : Int32} {a2 : Int32} {a3 : Int32} {a4 : Int32} {h : Hp} {z} (hf : f_X3_give o a1 a2 a3 a4 h = some z) : rc 3 h o = some () := by
  unfold f_X3_give at hf
  exact (bsome hf).choose_spec.1
set_option maxHeartbeats 2000000 in
set_option maxRecDepth 20000 in
theorem M_X3_give {g : GT} {o : Nat} {a1 : Int32} {a2 : Int32} {a3 : Int32} {a4 : Int32} {h : Hp} {r : (Nat ⊕ Int32)} {h2 : Hp} (hf : f_X3_give o a1 a2 a3 a4 h = some (r, h2)) : CM g yX3_give cX3_give 6 (some .int) 10 0 0 [.ref o, .int a1, .int a2, .int a3, .int a4] h (rI r) h2 := by
  refine CM_of rfl (fun _ => Nat.le_of_ble_eq_true rfl) (fun Γ C hn0 => ?_)
  have C : Cx g Γ cX3_give RX3 "give" 6 (some .int) 10 (0 + er (rI r)) (0 + 6 * er (rI r)) := C
  generalize hQ : Qe g Γ (rI r) h2 0 0 = Q
  show U g Γ 6 Q 0 0 0 [(0, .ref o), (1, .int a1), (2, .int a2), (3, .int a3), (4, .int a4)] [] h
  unfold f_X3_give at hf
  replace hf := (bsome hf).choose_spec.2
  refine U_aload_n (n := 1) 0 C dX3_give_0 rfl rfl rfl ?_
  refine U_iload_n (n := 2) 1 C dX3_give_1 rfl rfl ?_
  rcases bsomeT hf with ⟨kv1, ev1, hf⟩ | ⟨v1, ev1, hf⟩
  · skip
    obtain ⟨hr1, hr2⟩ := Prod.mk.inj (Option.some.inj hf)
    subst hr1; subst hr2
    subst hQ
    exact xv_RX3_80 kv1 C dX3_give_2 (av := [.int a1]) rfl (rc_X3_requirePoint ev1) (M_X3_requirePoint ev1) (Nat.le_of_ble_eq_true rfl) (Nat.le_of_ble_eq_true rfl)
  refine cv_RX3_80 (n := 5) C dX3_give_2 (av := [.int a1]) rfl (rc_X3_requirePoint ev1) (M_X3_requirePoint ev1) (Nat.le_of_ble_eq_true rfl) (Nat.zero_le _) (Nat.zero_le _) (Nat.le_of_ble_eq_true rfl) rfl ?_
  refine U_aload_n (n := 6) 0 C dX3_give_5 rfl rfl rfl ?_
  refine U_iload_n (n := 7) 2 C dX3_give_6 rfl rfl ?_
  rcases bsomeT hf with ⟨kv2, ev2, hf⟩ | ⟨v2, ev2, hf⟩
  · skip
    obtain ⟨hr1, hr2⟩ := Prod.mk.inj (Option.some.inj hf)
    subst hr1; subst hr2
    subst hQ
    exact xv_RX3_80 kv2 C dX3_give_7 (av := [.int a2]) rfl (rc_X3_requirePoint ev2) (M_X3_requirePoint ev2) (Nat.le_of_ble_eq_true rfl) (Nat.le_of_ble_eq_true rfl)
  refine cv_RX3_80 (n := 10) C dX3_give_7 (av := [.int a2]) rfl (rc_X3_requirePoint ev2) (M_X3_requirePoint ev2) (Nat.le_of_ble_eq_true rfl) (Nat.zero_le _) (Nat.zero_le _) (Nat.le_of_ble_eq_true rfl) rfl ?_
  refine U_aload_n (n := 11) 0 C dX3_give_10 rfl rfl rfl ?_
  refine U_iload_n (n := 12) 3 C dX3_give_11 rfl rfl ?_
  rcases bsomeT hf with ⟨kv3, ev3, hf⟩ | ⟨v3, ev3, hf⟩
  · skip
    obtain ⟨hr1, hr2⟩ := Prod.mk.inj (Option.some.inj hf)
    subst hr1; subst hr2
    subst hQ
    exact xv_RX3_80 kv3 C dX3_give_12 (av := [.int a3]) rfl (rc_X3_requirePoint ev3) (M_X3_requirePoint ev3) (Nat.le_of_ble_eq_true rfl) (Nat.le_of_ble_eq_true rfl)
  refine cv_RX3_80 (n := 15) C dX3_give_12 (av := [.int a3]) rfl (rc_X3_requirePoint ev3) (M_X3_requirePoint ev3) (Nat.le_of_ble_eq_true rfl) (Nat.zero_le _) (Nat.zero_le _) (Nat.le_of_ble_eq_true rfl) rfl ?_
  refine U_iload_n (n := 16) 1 C dX3_give_15 rfl rfl ?_
  refine U_iload_n (n := 17) 2 C dX3_give_16 rfl rfl ?_
  refine U_iload_n (n := 18) 3 C dX3_give_17 rfl rfl ?_
  rcases bsomeT hf with ⟨kv4, ev4, hf⟩ | ⟨v4, ev4, hf⟩
  · skip
    obtain ⟨hr1, hr2⟩ := Prod.mk.inj (Option.some.inj hf)
    subst hr1; subst hr2
    subst hQ
    exact xs_RX3_83 kv4 C dX3_give_18 (av := [.int a1, .int a2, .int a3]) rfl (M_X3_requireDistinct ev4) (Nat.le_of_ble_eq_true rfl) (Nat.le_of_ble_eq_true rfl)
  refine cv_RX3_83 (n := 21) C dX3_give_18 (av := [.int a1, .int a2, .int a3]) rfl (M_X3_requireDistinct ev4) (Nat.le_of_ble_eq_true rfl) (Nat.zero_le _) (Nat.zero_le _) (Nat.le_of_ble_eq_true rfl) rfl ?_
  refine U_iload (n := 23) 4 C dX3_give_21 rfl rfl ?_
  refine U_iconst (n := 24) (-1 : Int32) C dX3_give_23 kiconst_m1 rfl ?_
  refine U_iclt (tgt := 33) (n := 27) C dX3_give_24 (by decide) rfl (fun c5 => ?_) (fun c5 => ?_)
  · replace hf := (if_pos c5).symm.trans hf
    obtain ⟨hr1, hr2⟩ := Prod.mk.inj (Option.some.inj hf)
    subst hr1; subst hr2
    subst hQ
    exact U_throw 0 C xown_RX3 rfl xfit_0 xcl_0 xin_0 xsr_87 xat_0 xgood_0 dX3_give_33 dX3_give_36 dX3_give_37 dX3_give_39 dX3_give_42 (Nat.le_of_ble_eq_true rfl) (Nat.le_refl _) (Nat.le_refl _) rfl rfl
  · replace hf := (if_neg c5).symm.trans hf
    refine U_iload (n := 29) 4 C dX3_give_27 rfl rfl ?_
    refine U_iconst (n := 30) (1 : Int32) C dX3_give_29 kiconst_1 rfl ?_
    refine U_icle (tgt := 43) (n := 33) C dX3_give_30 (by decide) rfl (fun c6 => ?_) (fun c6 => ?_)
    · replace hf := (if_pos c6).symm.trans hf
      refine U_aload_n (n := 44) 0 C dX3_give_43 rfl rfl rfl ?_
      refine U_iload_n (n := 45) 1 C dX3_give_44 rfl rfl ?_
      refine U_iload_n (n := 46) 2 C dX3_give_45 rfl rfl ?_
      refine U_iload_n (n := 47) 3 C dX3_give_46 rfl rfl ?_
      obtain ⟨v7, ev7, hf⟩ := bsome hf
      refine cv_RX3_89 (n := 50) C dX3_give_47 (av := [.int a1, .int a2, .int a3]) rfl (rc_X3_orderedSign ev7) (M_X3_orderedSign ev7) (Nat.le_of_ble_eq_true rfl) (Nat.zero_le _) (Nat.zero_le _) (Nat.le_of_ble_eq_true rfl) rfl ?_
      refine U_istore (n := 52) (lv2 := [(5, .int v7), (0, .ref o), (1, .int a1), (2, .int a2), (3, .int a3), (4, .int a4)]) C dX3_give_50 (by decide) rfl rfl ?_
      refine U_aload_n (n := 53) 1 C dX3_give_52 rfl rfl rfl ?_
      obtain ⟨h9, ev8, hf⟩ := bsome hf
      refine cv_RX3_74 (n := 56) C dX3_give_53 (av := []) rfl (rc_X3_save ev8) (M_X3_save ev8) (Nat.le_of_ble_eq_true rfl) (Nat.zero_le _) (Nat.zero_le _) (Nat.le_of_ble_eq_true rfl) rfl ?_
      refine U_aload_n (n := 57) 1 C dX3_give_56 rfl rfl rfl ?_
      refine U_iload_n (n := 58) 2 C dX3_give_57 rfl rfl ?_
      refine U_iload_n (n := 59) 3 C dX3_give_58 rfl rfl ?_
      refine U_iload_n (n := 60) 4 C dX3_give_59 rfl rfl ?_
      refine U_iload (n := 62) 5 C dX3_give_60 rfl rfl ?_
      obtain ⟨h11, ev10, hf⟩ := bsome hf
      refine cv_RX3_93 (n := 65) C dX3_give_62 (av := [.int a1, .int a2, .int a3, .int a4]) rfl (rc_X3_giveOrdered ev10) (M_X3_giveOrdered ev10) (Nat.le_of_ble_eq_true rfl) (Nat.zero_le _) (Nat.zero_le _) (Nat.le_of_ble_eq_true rfl) rfl ?_
      refine U_iload (n := 67) 0 C dX3_give_65 rfl rfl ?_
      obtain ⟨hr1, hr2⟩ := Prod.mk.inj (Option.some.inj hf)
      subst hr1; subst hr2
      subst hQ
      exact U_iret C dX3_give_67 (Nat.le_refl 0) (Nat.le_refl 0)
    · replace hf := (if_neg c6).symm.trans hf
      obtain ⟨hr1, hr2⟩ := Prod.mk.inj (Option.some.inj hf)
      subst hr1; subst hr2
      subst hQ
      exact U_throw 0 C xown_RX3 rfl xfit_0 xcl_0 xin_0 xsr_87 xat_0 xgood_0 dX3_give_33 dX3_give_36 dX3_give_37 dX3_give_39 dX3_give_42 (Nat.le_of_ble_eq_true rfl) (Nat.le_refl _) (Nat.le_refl _) rfl rfl
def f_X3_takeAway (o : Nat) (a1 : Int32) (h : Hp) : Option Hp :=
  (rc 3 h o).bind fun _ =>
  (fR 3 1 h o).bind fun v1 =>
  bind2 (f_X2_forgetDerived v1 h) fun v2 h3 =>
  (fR 3 1 h3 o).bind fun v4 =>
  (f_X2_setUnknown v4 a1 h3).bind fun h6 =>
  some (h6)
theorem rc_X3_takeAway {o : Nat} {a1 : Int32} {h : Hp} {z} (hf : f_X3_takeAway o a1 h = some z) : rc 3 h o = some () := by
  unfold f_X3_takeAway at hf
  exact (bsome hf).choose_spec.1
set_option maxHeartbeats 2000000 in
set_option maxRecDepth 20000 in
theorem M_X3_takeAway {g : GT} {o : Nat} {a1 : Int32} {h : Hp} {h2 : Hp} (hf : f_X3_takeAway o a1 h = some h2) : CM g yX3_takeAway cX3_takeAway 2 none 8 0 0 [.ref o, .int a1] h (.inr none) h2 := by
  refine CM_of rfl (fun _ => Nat.le_of_ble_eq_true rfl) (fun Γ C hn0 => ?_)
  have C : Cx g Γ cX3_takeAway RX3 "takeAway" 2 none 8 0 0 := C
  generalize hQ : Qe g Γ (.inr none) h2 0 0 = Q
  show U g Γ 2 Q 0 0 0 [(0, .ref o), (1, .int a1)] [] h
  unfold f_X3_takeAway at hf
  replace hf := (bsome hf).choose_spec.2
  refine U_aload_n (n := 1) 0 C dX3_takeAway_0 rfl rfl rfl ?_
  refine gf_RX3_19 (n := 4) C dX3_takeAway_1 hf rfl (fun v1 hf => ?_)
  obtain ⟨v2, h3, ev2, hf⟩ := bsome2 hf
  refine cv_RX3_115 (n := 7) C dX3_takeAway_4 (av := []) rfl (rc_X2_forgetDerived ev2) (M_X2_forgetDerived ev2) (Nat.le_of_ble_eq_true rfl) (Nat.zero_le _) (Nat.zero_le _) (Nat.le_of_ble_eq_true rfl) rfl ?_
  refine U_pop (n := 8) C dX3_takeAway_7 rfl rfl ?_
  refine U_aload_n (n := 9) 0 C dX3_takeAway_8 rfl rfl rfl ?_
  refine gf_RX3_19 (n := 12) C dX3_takeAway_9 hf rfl (fun v4 hf => ?_)
  refine U_iload_n (n := 13) 1 C dX3_takeAway_12 rfl rfl ?_
  obtain ⟨h6, ev5, hf⟩ := bsome hf
  refine cv_RX3_342 (n := 16) C dX3_takeAway_13 (av := [.int a1]) rfl (rc_X2_setUnknown ev5) (M_X2_setUnknown ev5) (Nat.le_of_ble_eq_true rfl) (Nat.zero_le _) (Nat.zero_le _) (Nat.le_of_ble_eq_true rfl) rfl ?_
  have hr := (Option.some.inj hf)
  subst hr
  subst hQ
  exact U_vret C dX3_takeAway_16 (Nat.le_refl 0) (Nat.le_refl 0)
def f_X3_drop (o : Nat) (a1 : Int32) (a2 : Int32) (a3 : Int32) (h : Hp) : Option ((Nat ⊕ Int32) × Hp) :=
  (rc 3 h o).bind fun _ =>
  bindT (f_X3_requirePoint o a1 h) (fun kv1 => some ((.inl kv1, h))) fun v1 =>
  bindT (f_X3_requirePoint o a2 h) (fun kv2 => some ((.inl kv2, h))) fun v2 =>
  bindT (f_X3_requirePoint o a3 h) (fun kv3 => some ((.inl kv3, h))) fun v3 =>
  bindT (f_X3_requireDistinct a1 a2 a3) (fun kv4 => some ((.inl kv4, h))) fun v4 =>
  (fR 3 0 h o).bind fun v5 =>
  (f_X0_numberOf v5 a1 a2 a3 h).bind fun v6 =>
  (fR 3 1 h o).bind fun v7 =>
  (fR 2 4 h v7).bind fun v8 =>
  (aI h v8 v6).bind fun v9 =>
  if v9 = (1 : Int32) then (
    (f_X3_orderedSign o a1 a2 a3 h).bind fun v11 =>
    (f_X3_save o h).bind fun h13 =>
    (f_X3_takeAway o v6 h13).bind fun h15 =>
    some ((.inr v11, h15))
  ) else (
    some ((.inl 2, h))
  )
theorem rc_X3_drop {o : Nat} {a1 : Int32} {a2 : Int32} {a3 : Int32} {h : Hp} {z} (hf : f_X3_drop o a1 a2 a3 h = some z) : rc 3 h o = some () := by
  unfold f_X3_drop at hf
  exact (bsome hf).choose_spec.1
set_option maxHeartbeats 2000000 in
set_option maxRecDepth 20000 in
theorem M_X3_drop {g : GT} {o : Nat} {a1 : Int32} {a2 : Int32} {a3 : Int32} {h : Hp} {r : (Nat ⊕ Int32)} {h2 : Hp} (hf : f_X3_drop o a1 a2 a3 h = some (r, h2)) : CM g yX3_drop cX3_drop 6 (some .int) 9 0 0 [.ref o, .int a1, .int a2, .int a3] h (rI r) h2 := by
  refine CM_of rfl (fun _ => Nat.le_of_ble_eq_true rfl) (fun Γ C hn0 => ?_)
  have C : Cx g Γ cX3_drop RX3 "drop" 6 (some .int) 9 (0 + er (rI r)) (0 + 6 * er (rI r)) := C
  generalize hQ : Qe g Γ (rI r) h2 0 0 = Q
  show U g Γ 6 Q 0 0 0 [(0, .ref o), (1, .int a1), (2, .int a2), (3, .int a3)] [] h
  unfold f_X3_drop at hf
  replace hf := (bsome hf).choose_spec.2
  refine U_aload_n (n := 1) 0 C dX3_drop_0 rfl rfl rfl ?_
  refine U_iload_n (n := 2) 1 C dX3_drop_1 rfl rfl ?_
  rcases bsomeT hf with ⟨kv1, ev1, hf⟩ | ⟨v1, ev1, hf⟩
  · skip
    obtain ⟨hr1, hr2⟩ := Prod.mk.inj (Option.some.inj hf)
    subst hr1; subst hr2
    subst hQ
    exact xv_RX3_80 kv1 C dX3_drop_2 (av := [.int a1]) rfl (rc_X3_requirePoint ev1) (M_X3_requirePoint ev1) (Nat.le_of_ble_eq_true rfl) (Nat.le_of_ble_eq_true rfl)
  refine cv_RX3_80 (n := 5) C dX3_drop_2 (av := [.int a1]) rfl (rc_X3_requirePoint ev1) (M_X3_requirePoint ev1) (Nat.le_of_ble_eq_true rfl) (Nat.zero_le _) (Nat.zero_le _) (Nat.le_of_ble_eq_true rfl) rfl ?_
  refine U_aload_n (n := 6) 0 C dX3_drop_5 rfl rfl rfl ?_
  refine U_iload_n (n := 7) 2 C dX3_drop_6 rfl rfl ?_
  rcases bsomeT hf with ⟨kv2, ev2, hf⟩ | ⟨v2, ev2, hf⟩
  · skip
    obtain ⟨hr1, hr2⟩ := Prod.mk.inj (Option.some.inj hf)
    subst hr1; subst hr2
    subst hQ
    exact xv_RX3_80 kv2 C dX3_drop_7 (av := [.int a2]) rfl (rc_X3_requirePoint ev2) (M_X3_requirePoint ev2) (Nat.le_of_ble_eq_true rfl) (Nat.le_of_ble_eq_true rfl)
  refine cv_RX3_80 (n := 10) C dX3_drop_7 (av := [.int a2]) rfl (rc_X3_requirePoint ev2) (M_X3_requirePoint ev2) (Nat.le_of_ble_eq_true rfl) (Nat.zero_le _) (Nat.zero_le _) (Nat.le_of_ble_eq_true rfl) rfl ?_
  refine U_aload_n (n := 11) 0 C dX3_drop_10 rfl rfl rfl ?_
  refine U_iload_n (n := 12) 3 C dX3_drop_11 rfl rfl ?_
  rcases bsomeT hf with ⟨kv3, ev3, hf⟩ | ⟨v3, ev3, hf⟩
  · skip
    obtain ⟨hr1, hr2⟩ := Prod.mk.inj (Option.some.inj hf)
    subst hr1; subst hr2
    subst hQ
    exact xv_RX3_80 kv3 C dX3_drop_12 (av := [.int a3]) rfl (rc_X3_requirePoint ev3) (M_X3_requirePoint ev3) (Nat.le_of_ble_eq_true rfl) (Nat.le_of_ble_eq_true rfl)
  refine cv_RX3_80 (n := 15) C dX3_drop_12 (av := [.int a3]) rfl (rc_X3_requirePoint ev3) (M_X3_requirePoint ev3) (Nat.le_of_ble_eq_true rfl) (Nat.zero_le _) (Nat.zero_le _) (Nat.le_of_ble_eq_true rfl) rfl ?_
  refine U_iload_n (n := 16) 1 C dX3_drop_15 rfl rfl ?_
  refine U_iload_n (n := 17) 2 C dX3_drop_16 rfl rfl ?_
  refine U_iload_n (n := 18) 3 C dX3_drop_17 rfl rfl ?_
  rcases bsomeT hf with ⟨kv4, ev4, hf⟩ | ⟨v4, ev4, hf⟩
  · skip
    obtain ⟨hr1, hr2⟩ := Prod.mk.inj (Option.some.inj hf)
    subst hr1; subst hr2
    subst hQ
    exact xs_RX3_83 kv4 C dX3_drop_18 (av := [.int a1, .int a2, .int a3]) rfl (M_X3_requireDistinct ev4) (Nat.le_of_ble_eq_true rfl) (Nat.le_of_ble_eq_true rfl)
  refine cv_RX3_83 (n := 21) C dX3_drop_18 (av := [.int a1, .int a2, .int a3]) rfl (M_X3_requireDistinct ev4) (Nat.le_of_ble_eq_true rfl) (Nat.zero_le _) (Nat.zero_le _) (Nat.le_of_ble_eq_true rfl) rfl ?_
  refine U_aload_n (n := 22) 0 C dX3_drop_21 rfl rfl rfl ?_
  refine gf_RX3_10 (n := 25) C dX3_drop_22 hf rfl (fun v5 hf => ?_)
  refine U_iload_n (n := 26) 1 C dX3_drop_25 rfl rfl ?_
  refine U_iload_n (n := 27) 2 C dX3_drop_26 rfl rfl ?_
  refine U_iload_n (n := 28) 3 C dX3_drop_27 rfl rfl ?_
  obtain ⟨v6, ev6, hf⟩ := bsome hf
  refine cv_RX3_97 (n := 31) C dX3_drop_28 (av := [.int a1, .int a2, .int a3]) rfl (rc_X0_numberOf ev6) (M_X0_numberOf ev6) (Nat.le_of_ble_eq_true rfl) (Nat.zero_le _) (Nat.zero_le _) (Nat.le_of_ble_eq_true rfl) rfl ?_
  refine U_istore (n := 33) (lv2 := [(4, .int v6), (0, .ref o), (1, .int a1), (2, .int a2), (3, .int a3)]) C dX3_drop_31 (by decide) rfl rfl ?_
  refine U_aload_n (n := 34) 1 C dX3_drop_33 rfl rfl rfl ?_
  refine gf_RX3_19 (n := 37) C dX3_drop_34 hf rfl (fun v7 hf => ?_)
  refine gf_RX3_100 (n := 40) C dX3_drop_37 hf rfl (fun v8 hf => ?_)
  refine U_iload (n := 42) 0 C dX3_drop_40 rfl rfl ?_
  refine U_iald (n := 43) C dX3_drop_42 hf rfl (fun v9 hf => ?_)
  refine U_iconst (n := 44) (1 : Int32) C dX3_drop_43 kiconst_1 rfl ?_
  refine U_iceq (tgt := 57) (n := 47) C dX3_drop_44 (by decide) rfl (fun c10 => ?_) (fun c10 => ?_)
  · replace hf := (if_pos c10).symm.trans hf
    refine U_aload_n (n := 58) 1 C dX3_drop_57 rfl rfl rfl ?_
    refine U_iload_n (n := 59) 2 C dX3_drop_58 rfl rfl ?_
    refine U_iload_n (n := 60) 3 C dX3_drop_59 rfl rfl ?_
    refine U_iload_n (n := 61) 4 C dX3_drop_60 rfl rfl ?_
    obtain ⟨v11, ev11, hf⟩ := bsome hf
    refine cv_RX3_89 (n := 64) C dX3_drop_61 (av := [.int a1, .int a2, .int a3]) rfl (rc_X3_orderedSign ev11) (M_X3_orderedSign ev11) (Nat.le_of_ble_eq_true rfl) (Nat.zero_le _) (Nat.zero_le _) (Nat.le_of_ble_eq_true rfl) rfl ?_
    refine U_istore (n := 66) (lv2 := [(5, .int v11), (4, .int v6), (0, .ref o), (1, .int a1), (2, .int a2), (3, .int a3)]) C dX3_drop_64 (by decide) rfl rfl ?_
    refine U_aload_n (n := 67) 2 C dX3_drop_66 rfl rfl rfl ?_
    obtain ⟨h13, ev12, hf⟩ := bsome hf
    refine cv_RX3_74 (n := 70) C dX3_drop_67 (av := []) rfl (rc_X3_save ev12) (M_X3_save ev12) (Nat.le_of_ble_eq_true rfl) (Nat.zero_le _) (Nat.zero_le _) (Nat.le_of_ble_eq_true rfl) rfl ?_
    refine U_aload_n (n := 71) 2 C dX3_drop_70 rfl rfl rfl ?_
    refine U_iload (n := 73) 1 C dX3_drop_71 rfl rfl ?_
    obtain ⟨h15, ev14, hf⟩ := bsome hf
    refine cv_RX3_108 (n := 76) C dX3_drop_73 (av := [.int v6]) rfl (rc_X3_takeAway ev14) (M_X3_takeAway ev14) (Nat.le_of_ble_eq_true rfl) (Nat.zero_le _) (Nat.zero_le _) (Nat.le_of_ble_eq_true rfl) rfl ?_
    refine U_iload (n := 78) 0 C dX3_drop_76 rfl rfl ?_
    obtain ⟨hr1, hr2⟩ := Prod.mk.inj (Option.some.inj hf)
    subst hr1; subst hr2
    subst hQ
    exact U_iret C dX3_drop_78 (Nat.le_refl 0) (Nat.le_refl 0)
  · replace hf := (if_neg c10).symm.trans hf
    obtain ⟨hr1, hr2⟩ := Prod.mk.inj (Option.some.inj hf)
    subst hr1; subst hr2
    subst hQ
    exact U_throw 2 C xown_RX3 rfl xfit_2 xcl_2 xin_2 xsr_105 xat_2 xgood_2 dX3_drop_47 dX3_drop_50 dX3_drop_51 dX3_drop_53 dX3_drop_56 (Nat.le_of_ble_eq_true rfl) (Nat.le_refl _) (Nat.le_refl _) rfl rfl
def f_X3_setUniform (o : Nat) (a1 : Int32) (h : Hp) : Option (Int32 × Hp) :=
  (rc 3 h o).bind fun _ =>
  (fR 3 1 h o).bind fun v1 =>
  (fI 2 1 h v1).bind fun v2 =>
  (f_X3_save o h).bind fun h4 =>
  (fR 3 1 h4 o).bind fun v5 =>
  bind2 (f_X2_forgetDerived v5 h4) fun v6 h7 =>
  (fR 3 1 h7 o).bind fun v8 =>
  (gB a1).bind fun _ =>
  (sF 2 1 (.int a1) h7 v8).bind fun h9 =>
  (gB v2).bind fun _ =>
  some ((v2, h9))
theorem rc_X3_setUniform {o : Nat} {a1 : Int32} {h : Hp} {z} (hf : f_X3_setUniform o a1 h = some z) : rc 3 h o = some () := by
  unfold f_X3_setUniform at hf
  exact (bsome hf).choose_spec.1
set_option maxHeartbeats 2000000 in
set_option maxRecDepth 20000 in
theorem M_X3_setUniform {g : GT} {o : Nat} {a1 : Int32} {h : Hp} {r : Int32} {h2 : Hp} (hf : f_X3_setUniform o a1 h = some (r, h2)) : CM g yX3_setUniform cX3_setUniform 3 (some .boolean) 8 0 0 [.ref o, .int a1] h (.inr (some (.int r))) h2 := by
  refine CM_of rfl (fun _ => Nat.le_of_ble_eq_true rfl) (fun Γ C hn0 => ?_)
  have C : Cx g Γ cX3_setUniform RX3 "setUniform" 3 (some .boolean) 8 0 0 := C
  generalize hQ : Qe g Γ (.inr (some (.int r))) h2 0 0 = Q
  show U g Γ 3 Q 0 0 0 [(0, .ref o), (1, .int a1)] [] h
  unfold f_X3_setUniform at hf
  replace hf := (bsome hf).choose_spec.2
  refine U_aload_n (n := 1) 0 C dX3_setUniform_0 rfl rfl rfl ?_
  refine gf_RX3_19 (n := 4) C dX3_setUniform_1 hf rfl (fun v1 hf => ?_)
  refine gf_RX3_111 (n := 7) C dX3_setUniform_4 hf rfl (fun v2 hf => ?_)
  refine U_istore_n (n := 8) (lv2 := [(2, .int v2), (0, .ref o), (1, .int a1)]) C dX3_setUniform_7 (by decide) rfl rfl ?_
  refine U_aload_n (n := 9) 1 C dX3_setUniform_8 rfl rfl rfl ?_
  obtain ⟨h4, ev3, hf⟩ := bsome hf
  refine cv_RX3_74 (n := 12) C dX3_setUniform_9 (av := []) rfl (rc_X3_save ev3) (M_X3_save ev3) (Nat.le_of_ble_eq_true rfl) (Nat.zero_le _) (Nat.zero_le _) (Nat.le_of_ble_eq_true rfl) rfl ?_
  refine U_aload_n (n := 13) 1 C dX3_setUniform_12 rfl rfl rfl ?_
  refine gf_RX3_19 (n := 16) C dX3_setUniform_13 hf rfl (fun v5 hf => ?_)
  obtain ⟨v6, h7, ev6, hf⟩ := bsome2 hf
  refine cv_RX3_115 (n := 19) C dX3_setUniform_16 (av := []) rfl (rc_X2_forgetDerived ev6) (M_X2_forgetDerived ev6) (Nat.le_of_ble_eq_true rfl) (Nat.zero_le _) (Nat.zero_le _) (Nat.le_of_ble_eq_true rfl) rfl ?_
  refine U_pop (n := 20) C dX3_setUniform_19 rfl rfl ?_
  refine U_aload_n (n := 21) 1 C dX3_setUniform_20 rfl rfl rfl ?_
  refine gf_RX3_19 (n := 24) C dX3_setUniform_21 hf rfl (fun v8 hf => ?_)
  refine U_iload_n (n := 25) 2 C dX3_setUniform_24 rfl rfl ?_
  obtain ⟨_, hz10, hf⟩ := bsome hf
  replace hz10 := gB_spec hz10
  refine pf_RX3_111 (n := 28) C dX3_setUniform_25 hz10 hf rfl (fun h9 hf => ?_)
  refine U_iload_n (n := 29) 0 C dX3_setUniform_28 rfl rfl ?_
  obtain ⟨_, hz, hf⟩ := bsome hf
  replace hz := gB_spec hz
  obtain ⟨hr1, hr2⟩ := Prod.mk.inj (Option.some.inj hf)
  subst hr1; subst hr2
  subst hQ
  exact U_zret C dX3_setUniform_29 hz (Nat.le_refl 0) (Nat.le_refl 0)
def l_X3_reasonsOf_5 (p0 : Nat) (p1 : Int32) (h : Hp) : Nat → Int64 → Int32 → Option Int64
  | 0, _, _ => none
  | fuel + 1, x2, x4 =>
    if (6 : Int32) ≤ x4 then (
      some x2
    ) else (
      (fR 3 1 h p0).bind fun v2 =>
      (fR 2 7 h v2).bind fun v3 =>
      (fR 3 0 h p0).bind fun v4 =>
      (f_X0_factor v4 p1 x4 h).bind fun v5 =>
      (aJ h v3 v5).bind fun v6 =>
      l_X3_reasonsOf_5 p0 p1 h fuel (x2 ||| v6) (x4 + 1)
    )
def f_X3_reasonsOf (o : Nat) (a1 : Int32) (h : Hp) : Option Int64 :=
  (rc 3 h o).bind fun _ =>
  (l_X3_reasonsOf_5 o a1 h FU (0 : Int64) (0 : Int32)).bind fun v7 =>
  some (v7)
set_option maxHeartbeats 2000000 in
set_option maxRecDepth 20000 in
theorem L_X3_reasonsOf_5 {g : GT} {Γ : CT} {Q : State → Prop} {mc ms : Nat} (C : Cx g Γ cX3_reasonsOf RX3 "reasonsOf" 5 (some .long) 7 mc ms) {p0 : Nat} {p1 : Int32} {h : Hp} : ∀ {fuel : Nat} {x2 : Int64} {x4 : Int32} {y2 : Int64}, l_X3_reasonsOf_5 p0 p1 h fuel x2 x4 = some y2 → U g Γ 5 Q 0 0 39 [(2, .long y2)] [] h → U g Γ 5 Q 0 0 5 [(0, .ref p0), (1, .int p1), (2, .long x2), (4, .int x4)] [] h := by
  intro fuel
  induction fuel with
  | zero =>
    intro x2 x4 y2 hf J0
    simp only [l_X3_reasonsOf_5, reduceCtorEq] at hf
  | succ fuel ih =>
    intro x2 x4 y2 hf J0
    rw [l_X3_reasonsOf_5] at hf
    refine U_iload (n := 7) 3 C dX3_reasonsOf_5 rfl rfl ?_
    refine U_bipush (n := 9) (6 : Int32) C dX3_reasonsOf_7 kbipush_6 rfl ?_
    refine U_icge (tgt := 39) (n := 12) C dX3_reasonsOf_9 (by decide) rfl (fun c1 => ?_) (fun c1 => ?_)
    · replace hf := (if_pos c1).symm.trans hf
      have hr := Option.some.inj hf
      subst hr
      exact U_lv [2] rfl J0
    · replace hf := (if_neg c1).symm.trans hf
      refine U_lload_n (n := 13) 2 C dX3_reasonsOf_12 rfl rfl ?_
      refine U_aload_n (n := 14) 0 C dX3_reasonsOf_13 rfl rfl rfl ?_
      refine gf_RX3_19 (n := 17) C dX3_reasonsOf_14 hf rfl (fun v2 hf => ?_)
      refine gf_RX3_159 (n := 20) C dX3_reasonsOf_17 hf rfl (fun v3 hf => ?_)
      refine U_aload_n (n := 21) 0 C dX3_reasonsOf_20 rfl rfl rfl ?_
      refine gf_RX3_10 (n := 24) C dX3_reasonsOf_21 hf rfl (fun v4 hf => ?_)
      refine U_iload_n (n := 25) 1 C dX3_reasonsOf_24 rfl rfl ?_
      refine U_iload (n := 27) 3 C dX3_reasonsOf_25 rfl rfl ?_
      obtain ⟨v5, ev5, hf⟩ := bsome hf
      refine cv_RX3_362 (n := 30) C dX3_reasonsOf_27 (av := [.int p1, .int x4]) rfl (rc_X0_factor ev5) (M_X0_factor ev5) (Nat.le_of_ble_eq_true rfl) (Nat.zero_le _) (Nat.zero_le _) (Nat.le_of_ble_eq_true rfl) rfl ?_
      refine U_lald (n := 31) C dX3_reasonsOf_30 hf rfl (fun v6 hf => ?_)
      refine U_lor (n := 32) C dX3_reasonsOf_31 rfl ?_
      refine U_lstore_n (n := 33) (lv2 := [(2, .long (x2 ||| v6)), (0, .ref p0), (1, .int p1), (4, .int x4)]) C dX3_reasonsOf_32 (by decide) rfl rfl ?_
      refine U_iinc (n := 36) (v := (x4 + 1)) (lv2 := [(4, .int (x4 + 1)), (2, .long (x2 ||| v6)), (0, .ref p0), (1, .int p1)]) 3 C dX3_reasonsOf_33 rfl rfl (by decide) rfl rfl ?_
      refine U_goto (n := 0) (tgt := 5) C dX3_reasonsOf_36 (by decide) ?_
      exact U_lv [2, 3, 1, 0] rfl (ih hf J0)
theorem rc_X3_reasonsOf {o : Nat} {a1 : Int32} {h : Hp} {z} (hf : f_X3_reasonsOf o a1 h = some z) : rc 3 h o = some () := by
  unfold f_X3_reasonsOf at hf
  exact (bsome hf).choose_spec.1
set_option maxHeartbeats 2000000 in
set_option maxRecDepth 20000 in
theorem M_X3_reasonsOf {g : GT} {o : Nat} {a1 : Int32} {h : Hp} {r : Int64} (hf : f_X3_reasonsOf o a1 h = some r) : CM g yX3_reasonsOf cX3_reasonsOf 5 (some .long) 7 0 0 [.ref o, .int a1] h (.inr (some (.long r))) h := by
  refine CM_of rfl (fun _ => Nat.le_of_ble_eq_true rfl) (fun Γ C hn0 => ?_)
  have C : Cx g Γ cX3_reasonsOf RX3 "reasonsOf" 5 (some .long) 7 0 0 := C
  generalize hQ : Qe g Γ (.inr (some (.long r))) h 0 0 = Q
  show U g Γ 5 Q 0 0 0 [(0, .ref o), (1, .int a1)] [] h
  unfold f_X3_reasonsOf at hf
  replace hf := (bsome hf).choose_spec.2
  refine U_lconst (n := 1) (0 : Int64) C dX3_reasonsOf_0 klconst_0 rfl ?_
  refine U_lstore_n (n := 2) (lv2 := [(2, .long (0 : Int64)), (0, .ref o), (1, .int a1)]) C dX3_reasonsOf_1 (by decide) rfl rfl ?_
  refine U_iconst (n := 3) (0 : Int32) C dX3_reasonsOf_2 kiconst_0 rfl ?_
  refine U_istore (n := 5) (lv2 := [(4, .int (0 : Int32)), (2, .long (0 : Int64)), (0, .ref o), (1, .int a1)]) C dX3_reasonsOf_3 (by decide) rfl rfl ?_
  refine U_join1 (fun v7 => U g Γ 5 Q 0 0 39 [(2, .long v7)] [] h) hf (fun v7 hf => ?_) (fun v7 hf J => U_lv [2, 3, 1, 0] rfl (L_X3_reasonsOf_5 C hf J))
  refine U_lload_n (n := 40) 0 C dX3_reasonsOf_39 rfl rfl ?_
  have hr := (Option.some.inj hf)
  subst hr
  subst hQ
  exact U_lret C dX3_reasonsOf_40 (Nat.le_refl 0) (Nat.le_refl 0)
