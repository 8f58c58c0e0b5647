def f_X4_begin (o : Nat) (a1 : Int32) (h : Hp) : Option (Int32 × Hp) :=
  (rc 4 h o).bind fun _ =>
  (f_X4_in a1 (3 : Int32) (8 : Int32)).bind fun v1 =>
  if v1 = 0 then (
    bind2 (f_X4_fails o (1 : Int32) h) fun v3 h4 =>
    some ((v3, h4))
  ) else (
    (f_X4_hold o h).bind fun h6 =>
    (f_X4_begins o a1 h6).bind fun h8 =>
    (fI 4 9 h8 o).bind fun v9 =>
    bind2 (f_X4_ends o v9 h8) fun v10 h11 =>
    some ((v10, h11))
  )
theorem rc_X4_begin {o : Nat} {a1 : Int32} {h : Hp} {z} (hf : f_X4_begin o a1 h = some z) : rc 4 h o = some () := by
  unfold f_X4_begin at hf
  exact (bsome hf).choose_spec.1
set_option maxHeartbeats 2000000 in
set_option maxRecDepth 20000 in
theorem M_X4_begin {g : GT} {o : Nat} {a1 : Int32} {h : Hp} {r : Int32} {h2 : Hp} (hf : f_X4_begin o a1 h = some (r, h2)) : CM g yX4_begin cX4_begin 2 (some .int) 9 0 0 [.ref o, .int a1] h (.inr (some (.int r))) h2 := by
  refine CM_of rfl (fun _ => Nat.le_of_ble_eq_true rfl) (fun Γ C hn0 => ?_)
  have C : Cx g Γ cX4_begin RX4 "begin" 2 (some .int) 9 0 0 := C
  generalize hQ : Qe g Γ (.inr (some (.int r))) h2 0 0 = Q
  show U g Γ 2 Q 0 0 0 [(0, .ref o), (1, .int a1)] [] h
  unfold f_X4_begin at hf
  replace hf := (bsome hf).choose_spec.2
  refine U_iload_n (n := 1) 1 C dX4_begin_0 rfl rfl ?_
  refine U_iconst (n := 2) (3 : Int32) C dX4_begin_1 kiconst_3 rfl ?_
  refine U_bipush (n := 4) (8 : Int32) C dX4_begin_2 kbipush_8 rfl ?_
  obtain ⟨v1, ev1, hf⟩ := bsome hf
  refine cv_RX4_91 (n := 7) C dX4_begin_4 (av := [.int a1, .int (3 : Int32), .int (8 : Int32)]) rfl (M_X4_in ev1) (Nat.le_of_ble_eq_true rfl) (Nat.zero_le _) (Nat.zero_le _) (Nat.le_of_ble_eq_true rfl) rfl ?_
  refine U_ifne (tgt := 16) (n := 10) C dX4_begin_7 (by decide) rfl (fun c2 => ?_) (fun c2 => ?_)
  · replace hf := (if_pos c2).symm.trans hf
    refine U_aload_n (n := 11) 0 C dX4_begin_10 rfl rfl rfl ?_
    refine U_iconst (n := 12) (1 : Int32) C dX4_begin_11 kiconst_1 rfl ?_
    obtain ⟨v3, h4, ev3, hf⟩ := bsome2 hf
    refine cv_RX4_113 (n := 15) C dX4_begin_12 (av := [.int (1 : Int32)]) rfl (rc_X4_fails ev3) (M_X4_fails ev3) (Nat.le_of_ble_eq_true rfl) (Nat.zero_le _) (Nat.zero_le _) (Nat.le_of_ble_eq_true rfl) rfl ?_
    obtain ⟨hr1, hr2⟩ := Prod.mk.inj (Option.some.inj hf)
    subst hr1; subst hr2
    subst hQ
    exact U_iret C dX4_begin_15 (Nat.le_refl 0) (Nat.le_refl 0)
  · replace hf := (if_neg c2).symm.trans hf
    refine U_aload_n (n := 17) 0 C dX4_begin_16 rfl rfl rfl ?_
    obtain ⟨h6, ev5, hf⟩ := bsome hf
    refine cv_RX4_116 (n := 20) C dX4_begin_17 (av := []) rfl (rc_X4_hold ev5) (M_X4_hold ev5) (Nat.le_of_ble_eq_true rfl) (Nat.zero_le _) (Nat.zero_le _) (Nat.le_of_ble_eq_true rfl) rfl ?_
    refine U_aload_n (n := 21) 0 C dX4_begin_20 rfl rfl rfl ?_
    refine U_iload_n (n := 22) 1 C dX4_begin_21 rfl rfl ?_
    obtain ⟨h8, ev7, hf⟩ := bsome hf
    refine cv_RX4_56 (n := 25) C dX4_begin_22 (av := [.int a1]) rfl (rc_X4_begins ev7) (M_X4_begins ev7) (Nat.le_of_ble_eq_true rfl) (Nat.zero_le _) (Nat.zero_le _) (Nat.le_of_ble_eq_true rfl) rfl ?_
    refine U_aload_n (n := 26) 0 C dX4_begin_25 rfl rfl rfl ?_
    refine U_aload_n (n := 27) 0 C dX4_begin_26 rfl rfl rfl ?_
    refine gf_RX4_71 (n := 30) C dX4_begin_27 hf rfl (fun v9 hf => ?_)
    obtain ⟨v10, h11, ev10, hf⟩ := bsome2 hf
    refine cv_RX4_119 (n := 33) C dX4_begin_30 (av := [.int v9]) rfl (rc_X4_ends ev10) (M_X4_ends ev10) (Nat.le_of_ble_eq_true rfl) (Nat.zero_le _) (Nat.zero_le _) (Nat.le_of_ble_eq_true rfl) rfl ?_
    obtain ⟨hr1, hr2⟩ := Prod.mk.inj (Option.some.inj hf)
    subst hr1; subst hr2
    subst hQ
    exact U_iret C dX4_begin_33 (Nat.le_refl 0) (Nat.le_refl 0)
def f_X4_gives (o : Nat) (a1 : Int32) (a2 : Int32) (h : Hp) : Option Hp :=
  (rc 4 h o).bind fun _ =>
  (f_X4_get o a1 (1 : Int32) h).bind fun v1 =>
  bindR0 (
    if v1 = (1 : Int32) then (
      (f_X4_get o a1 (0 : Int32) h).bind fun v22 =>
      if v22 = a2 then (
        some (.inr (h))
      ) else (
        some (Sum.inl ())
      )
    ) else (
      some (Sum.inl ())
    )
  ) fun _ =>
  bind2 (
    if v1 = 0 then (
      some (((0 : Int32), h))
    ) else (
      bind2 (f_X4_forgets o h) fun v20 h21 =>
      some ((v20, h21))
    )
  ) fun v7 h8 =>
  (fR 4 0 h8 o).bind fun v12 =>
  (wI h8 v12 (2 : Int32) (-100 : Int32)).bind fun h13 =>
  (f_X4_clears o a1 h13).bind fun h15 =>
  (f_X4_puts o a1 (0 : Int32) a2 h15).bind fun h17 =>
  (f_X4_puts o a1 (1 : Int32) (1 : Int32) h17).bind fun h19 =>
  some (h19)
theorem rc_X4_gives {o : Nat} {a1 : Int32} {a2 : Int32} {h : Hp} {z} (hf : f_X4_gives o a1 a2 h = some z) : rc 4 h o = some () := by
  unfold f_X4_gives at hf
  exact (bsome hf).choose_spec.1
set_option maxHeartbeats 2000000 in
set_option maxRecDepth 20000 in
theorem M_X4_gives {g : GT} {o : Nat} {a1 : Int32} {a2 : Int32} {h : Hp} {h2 : Hp} (hf : f_X4_gives o a1 a2 h = some h2) : CM g yX4_gives cX4_gives 5 none 9 0 0 [.ref o, .int a1, .int a2] h (.inr none) h2 := by
  refine CM_of rfl (fun _ => Nat.le_of_ble_eq_true rfl) (fun Γ C hn0 => ?_)
  have C : Cx g Γ cX4_gives RX4 "gives" 5 none 9 0 0 := C
  generalize hQ : Qe g Γ (.inr none) h2 0 0 = Q
  show U g Γ 5 Q 0 0 0 [(0, .ref o), (1, .int a1), (2, .int a2)] [] h
  unfold f_X4_gives at hf
  replace hf := (bsome hf).choose_spec.2
  refine U_aload_n (n := 1) 0 C dX4_gives_0 rfl rfl rfl ?_
  refine U_iload_n (n := 2) 1 C dX4_gives_1 rfl rfl ?_
  refine U_iconst (n := 3) (1 : Int32) C dX4_gives_2 kiconst_1 rfl ?_
  obtain ⟨v1, ev1, hf⟩ := bsome hf
  refine cv_RX4_106 (n := 6) C dX4_gives_3 (av := [.int a1, .int (1 : Int32)]) rfl (rc_X4_get ev1) (M_X4_get ev1) (Nat.le_of_ble_eq_true rfl) (Nat.zero_le _) (Nat.zero_le _) (Nat.le_of_ble_eq_true rfl) rfl ?_
  refine U_istore_n (n := 7) (lv2 := [(3, .int v1), (0, .ref o), (1, .int a1), (2, .int a2)]) C dX4_gives_6 (by decide) rfl rfl ?_
  refine U_iload_n (n := 8) 0 C dX4_gives_7 rfl rfl ?_
  refine U_iconst (n := 9) (1 : Int32) C dX4_gives_8 kiconst_1 rfl ?_
  refine U_joinR0 (U g Γ 5 Q 0 0 23 [(0, .ref o), (1, .int a1), (2, .int a2), (3, .int v1)] [] h) hf (fun hf => ?_) (fun o3 hf J4 R5 => ?_)
  · skip
    refine U_iload_n (n := 24) 3 C dX4_gives_23 rfl rfl ?_
    refine U_join2 (fun v7 h8 => U g Γ 5 Q 0 0 35 [(0, .ref o), (1, .int a1), (2, .int a2)] [.int v7] h8) hf (fun v7 h8 hf => ?_) (fun v7 h8 hf J10 => ?_)
    · skip
      refine U_istore (n := 37) (lv2 := [(4, .int v7), (0, .ref o), (1, .int a1), (2, .int a2)]) C dX4_gives_35 (by decide) rfl rfl ?_
      refine U_aload_n (n := 38) 1 C dX4_gives_37 rfl rfl rfl ?_
      refine gf_RX4_7 (n := 41) C dX4_gives_38 hf rfl (fun v12 hf => ?_)
      refine U_iconst (n := 42) (2 : Int32) C dX4_gives_41 kiconst_2 rfl ?_
      refine U_bipush (n := 44) (-100 : Int32) C dX4_gives_42 kbipush_m100 rfl ?_
      refine U_iast (n := 45) C dX4_gives_44 hf rfl (fun h13 hf => ?_)
      refine U_aload_n (n := 46) 1 C dX4_gives_45 rfl rfl rfl ?_
      refine U_iload_n (n := 47) 2 C dX4_gives_46 rfl rfl ?_
      obtain ⟨h15, ev14, hf⟩ := bsome hf
      refine cv_RX4_81 (n := 50) C dX4_gives_47 (av := [.int a1]) rfl (rc_X4_clears ev14) (M_X4_clears ev14) (Nat.le_of_ble_eq_true rfl) (Nat.zero_le _) (Nat.zero_le _) (Nat.le_of_ble_eq_true rfl) rfl ?_
      refine U_aload_n (n := 51) 1 C dX4_gives_50 rfl rfl rfl ?_
      refine U_iload_n (n := 52) 2 C dX4_gives_51 rfl rfl ?_
      refine U_iconst (n := 53) (0 : Int32) C dX4_gives_52 kiconst_0 rfl ?_
      refine U_iload_n (n := 54) 3 C dX4_gives_53 rfl rfl ?_
      obtain ⟨h17, ev16, hf⟩ := bsome hf
      refine cv_RX4_87 (n := 57) C dX4_gives_54 (av := [.int a1, .int (0 : Int32), .int a2]) rfl (rc_X4_puts ev16) (M_X4_puts ev16) (Nat.le_of_ble_eq_true rfl) (Nat.zero_le _) (Nat.zero_le _) (Nat.le_of_ble_eq_true rfl) rfl ?_
      refine U_aload_n (n := 58) 1 C dX4_gives_57 rfl rfl rfl ?_
      refine U_iload_n (n := 59) 2 C dX4_gives_58 rfl rfl ?_
      refine U_iconst (n := 60) (1 : Int32) C dX4_gives_59 kiconst_1 rfl ?_
      refine U_iconst (n := 61) (1 : Int32) C dX4_gives_60 kiconst_1 rfl ?_
      obtain ⟨h19, ev18, hf⟩ := bsome hf
      refine cv_RX4_87 (n := 64) C dX4_gives_61 (av := [.int a1, .int (1 : Int32), .int (1 : Int32)]) rfl (rc_X4_puts ev18) (M_X4_puts ev18) (Nat.le_of_ble_eq_true rfl) (Nat.zero_le _) (Nat.zero_le _) (Nat.le_of_ble_eq_true rfl) rfl ?_
      have hr := (Option.some.inj hf)
      subst hr
      subst hQ
      exact U_vret C dX4_gives_64 (Nat.le_refl 0) (Nat.le_refl 0)
    · skip
      refine U_ifeq (tgt := 34) (n := 27) C dX4_gives_24 (by decide) rfl (fun c6 => ?_) (fun c6 => ?_)
      · replace hf := (if_pos c6).symm.trans hf
        refine U_iconst (n := 35) (0 : Int32) C dX4_gives_34 kiconst_0 rfl ?_
        obtain ⟨hr0, hs0⟩ := Prod.mk.inj (Option.some.inj hf)
        subst hr0
        subst hs0
        exact U_lv [0, 1, 2] rfl J10
      · replace hf := (if_neg c6).symm.trans hf
        refine U_aload_n (n := 28) 0 C dX4_gives_27 rfl rfl rfl ?_
        obtain ⟨v20, h21, ev20, hf⟩ := bsome2 hf
        refine cv_RX4_122 (n := 31) C dX4_gives_28 (av := []) rfl (rc_X4_forgets ev20) (M_X4_forgets ev20) (Nat.le_of_ble_eq_true rfl) (Nat.zero_le _) (Nat.zero_le _) (Nat.le_of_ble_eq_true rfl) rfl ?_
        refine U_goto (n := 0) (tgt := 35) C dX4_gives_31 (by decide) ?_
        obtain ⟨hr0, hs0⟩ := Prod.mk.inj (Option.some.inj hf)
        subst hr0
        subst hs0
        exact U_lv [0, 1, 2] rfl J10
  · skip
    refine U_icne (tgt := 23) (n := 12) C dX4_gives_9 (by decide) rfl (fun c2 => ?_) (fun c2 => ?_)
    · replace hf := (if_pos c2).symm.trans hf
      refine U_aload_n (n := 13) 1 C dX4_gives_12 rfl rfl rfl ?_
      refine U_iload_n (n := 14) 2 C dX4_gives_13 rfl rfl ?_
      refine U_iconst (n := 15) (0 : Int32) C dX4_gives_14 kiconst_0 rfl ?_
      obtain ⟨v22, ev22, hf⟩ := bsome hf
      refine cv_RX4_106 (n := 18) C dX4_gives_15 (av := [.int a1, .int (0 : Int32)]) rfl (rc_X4_get ev22) (M_X4_get ev22) (Nat.le_of_ble_eq_true rfl) (Nat.zero_le _) (Nat.zero_le _) (Nat.le_of_ble_eq_true rfl) rfl ?_
      refine U_iload_n (n := 19) 3 C dX4_gives_18 rfl rfl ?_
      refine U_icne (tgt := 23) (n := 22) C dX4_gives_19 (by decide) rfl (fun c23 => ?_) (fun c23 => ?_)
      · replace hf := (if_pos c23).symm.trans hf
        have hr := Option.some.inj hf
        subst hr
        have hr := (R5 _ rfl)
        subst hr
        subst hQ
        exact U_vret C dX4_gives_22 (Nat.le_refl 0) (Nat.le_refl 0)
      · replace hf := (if_neg c23).symm.trans hf
        have hr := Option.some.inj hf
        subst hr
        exact U_lv [1, 2, 3, 0] rfl (J4 rfl)
    · replace hf := (if_neg c2).symm.trans hf
      have hr := Option.some.inj hf
      subst hr
      exact U_lv [1, 2, 3, 0] rfl (J4 rfl)
def f_X4_givesTo (o : Nat) (a1 : Int32) (a2 : Int32) (a3 : Int32) (a4 : Int32) (h : Hp) : Option (Int32 × Hp) :=
  (rc 4 h o).bind fun _ =>
  (f_X4_arePoints o a1 a2 a3 h).bind fun v1 =>
  if v1 = 0 then (
    some (((1 : Int32), h))
  ) else (
    (f_X4_differ a1 a2 a3).bind fun v3 =>
    if v3 = 0 then (
      some (((2 : Int32), h))
    ) else (
      (f_X4_in a4 (-1 : Int32) (1 : Int32)).bind fun v5 =>
      if v5 = 0 then (
        some (((2 : Int32), h))
      ) else (
        (f_X4_signOf o a1 a2 a3 h).bind fun v7 =>
        (sF 4 12 (.int v7) h o).bind fun h8 =>
        (f_X4_tripleOf o a1 a2 a3 h8).bind fun v9 =>
        (f_X4_parity a1 a2 a3).bind fun v10 =>
        (f_X4_gives o v9 (a4 * v10) h8).bind fun h12 =>
        some (((0 : Int32), h12))
      )
    )
  )
theorem rc_X4_givesTo {o : Nat} {a1 : Int32} {a2 : Int32} {a3 : Int32} {a4 : Int32} {h : Hp} {z} (hf : f_X4_givesTo o a1 a2 a3 a4 h = some z) : rc 4 h o = some () := by
  unfold f_X4_givesTo at hf
  exact (bsome hf).choose_spec.1
set_option maxHeartbeats 2000000 in
set_option maxRecDepth 20000 in
theorem M_X4_givesTo {g : GT} {o : Nat} {a1 : Int32} {a2 : Int32} {a3 : Int32} {a4 : Int32} {h : Hp} {r : Int32} {h2 : Hp} (hf : f_X4_givesTo o a1 a2 a3 a4 h = some (r, h2)) : CM g yX4_givesTo cX4_givesTo 5 (some .int) 10 0 0 [.ref o, .int a1, .int a2, .int a3, .int a4] h (.inr (some (.int r))) h2 := by
  refine CM_of rfl (fun _ => Nat.le_of_ble_eq_true rfl) (fun Γ C hn0 => ?_)
  have C : Cx g Γ cX4_givesTo RX4 "givesTo" 5 (some .int) 10 0 0 := C
  generalize hQ : Qe g Γ (.inr (some (.int r))) h2 0 0 = Q
  show U g Γ 5 Q 0 0 0 [(0, .ref o), (1, .int a1), (2, .int a2), (3, .int a3), (4, .int a4)] [] h
  unfold f_X4_givesTo at hf
  replace hf := (bsome hf).choose_spec.2
  refine U_aload_n (n := 1) 0 C dX4_givesTo_0 rfl rfl rfl ?_
  refine U_iload_n (n := 2) 1 C dX4_givesTo_1 rfl rfl ?_
  refine U_iload_n (n := 3) 2 C dX4_givesTo_2 rfl rfl ?_
  refine U_iload_n (n := 4) 3 C dX4_givesTo_3 rfl rfl ?_
  obtain ⟨v1, ev1, hf⟩ := bsome hf
  refine cv_RX4_126 (n := 7) C dX4_givesTo_4 (av := [.int a1, .int a2, .int a3]) rfl (rc_X4_arePoints ev1) (M_X4_arePoints ev1) (Nat.le_of_ble_eq_true rfl) (Nat.zero_le _) (Nat.zero_le _) (Nat.le_of_ble_eq_true rfl) rfl ?_
  refine U_ifne (tgt := 12) (n := 10) C dX4_givesTo_7 (by decide) rfl (fun c2 => ?_) (fun c2 => ?_)
  · replace hf := (if_pos c2).symm.trans hf
    refine U_iconst (n := 11) (1 : Int32) C dX4_givesTo_10 kiconst_1 rfl ?_
    obtain ⟨hr1, hr2⟩ := Prod.mk.inj (Option.some.inj hf)
    subst hr1; subst hr2
    subst hQ
    exact U_iret C dX4_givesTo_11 (Nat.le_refl 0) (Nat.le_refl 0)
  · replace hf := (if_neg c2).symm.trans hf
    refine U_iload_n (n := 13) 1 C dX4_givesTo_12 rfl rfl ?_
    refine U_iload_n (n := 14) 2 C dX4_givesTo_13 rfl rfl ?_
    refine U_iload_n (n := 15) 3 C dX4_givesTo_14 rfl rfl ?_
    obtain ⟨v3, ev3, hf⟩ := bsome hf
    refine cv_RX4_99 (n := 18) C dX4_givesTo_15 (av := [.int a1, .int a2, .int a3]) rfl (M_X4_differ ev3) (Nat.le_of_ble_eq_true rfl) (Nat.zero_le _) (Nat.zero_le _) (Nat.le_of_ble_eq_true rfl) rfl ?_
    refine U_ifeq (tgt := 31) (n := 21) C dX4_givesTo_18 (by decide) rfl (fun c4 => ?_) (fun c4 => ?_)
    · replace hf := (if_pos c4).symm.trans hf
      refine U_iconst (n := 32) (2 : Int32) C dX4_givesTo_31 kiconst_2 rfl ?_
      obtain ⟨hr1, hr2⟩ := Prod.mk.inj (Option.some.inj hf)
      subst hr1; subst hr2
      subst hQ
      exact U_iret C dX4_givesTo_32 (Nat.le_refl 0) (Nat.le_refl 0)
    · replace hf := (if_neg c4).symm.trans hf
      refine U_iload (n := 23) 4 C dX4_givesTo_21 rfl rfl ?_
      refine U_iconst (n := 24) (-1 : Int32) C dX4_givesTo_23 kiconst_m1 rfl ?_
      refine U_iconst (n := 25) (1 : Int32) C dX4_givesTo_24 kiconst_1 rfl ?_
      obtain ⟨v5, ev5, hf⟩ := bsome hf
      refine cv_RX4_91 (n := 28) C dX4_givesTo_25 (av := [.int a4, .int (-1 : Int32), .int (1 : Int32)]) rfl (M_X4_in ev5) (Nat.le_of_ble_eq_true rfl) (Nat.zero_le _) (Nat.zero_le _) (Nat.le_of_ble_eq_true rfl) rfl ?_
      refine U_ifne (tgt := 33) (n := 31) C dX4_givesTo_28 (by decide) rfl (fun c6 => ?_) (fun c6 => ?_)
      · replace hf := (if_pos c6).symm.trans hf
        refine U_iconst (n := 32) (2 : Int32) C dX4_givesTo_31 kiconst_2 rfl ?_
        obtain ⟨hr1, hr2⟩ := Prod.mk.inj (Option.some.inj hf)
        subst hr1; subst hr2
        subst hQ
        exact U_iret C dX4_givesTo_32 (Nat.le_refl 0) (Nat.le_refl 0)
      · replace hf := (if_neg c6).symm.trans hf
        refine U_aload_n (n := 34) 0 C dX4_givesTo_33 rfl rfl rfl ?_
        refine U_aload_n (n := 35) 0 C dX4_givesTo_34 rfl rfl rfl ?_
        refine U_iload_n (n := 36) 1 C dX4_givesTo_35 rfl rfl ?_
        refine U_iload_n (n := 37) 2 C dX4_givesTo_36 rfl rfl ?_
        refine U_iload_n (n := 38) 3 C dX4_givesTo_37 rfl rfl ?_
        obtain ⟨v7, ev7, hf⟩ := bsome hf
        refine cv_RX4_129 (n := 41) C dX4_givesTo_38 (av := [.int a1, .int a2, .int a3]) rfl (rc_X4_signOf ev7) (M_X4_signOf ev7) (Nat.le_of_ble_eq_true rfl) (Nat.zero_le _) (Nat.zero_le _) (Nat.le_of_ble_eq_true rfl) rfl ?_
        refine pf_RX4_132 (n := 44) C dX4_givesTo_41 hf rfl (fun h8 hf => ?_)
        refine U_aload_n (n := 45) 0 C dX4_givesTo_44 rfl rfl rfl ?_
        refine U_aload_n (n := 46) 0 C dX4_givesTo_45 rfl rfl rfl ?_
        refine U_iload_n (n := 47) 1 C dX4_givesTo_46 rfl rfl ?_
        refine U_iload_n (n := 48) 2 C dX4_givesTo_47 rfl rfl ?_
        refine U_iload_n (n := 49) 3 C dX4_givesTo_48 rfl rfl ?_
        obtain ⟨v9, ev9, hf⟩ := bsome hf
        refine cv_RX4_102 (n := 52) C dX4_givesTo_49 (av := [.int a1, .int a2, .int a3]) rfl (rc_X4_tripleOf ev9) (M_X4_tripleOf ev9) (Nat.le_of_ble_eq_true rfl) (Nat.zero_le _) (Nat.zero_le _) (Nat.le_of_ble_eq_true rfl) rfl ?_
        refine U_iload (n := 54) 4 C dX4_givesTo_52 rfl rfl ?_
        refine U_iload_n (n := 55) 1 C dX4_givesTo_54 rfl rfl ?_
        refine U_iload_n (n := 56) 2 C dX4_givesTo_55 rfl rfl ?_
        refine U_iload_n (n := 57) 3 C dX4_givesTo_56 rfl rfl ?_
        obtain ⟨v10, ev10, hf⟩ := bsome hf
        refine cv_RX4_110 (n := 60) C dX4_givesTo_57 (av := [.int a1, .int a2, .int a3]) rfl (M_X4_parity ev10) (Nat.le_of_ble_eq_true rfl) (Nat.zero_le _) (Nat.zero_le _) (Nat.le_of_ble_eq_true rfl) rfl ?_
        refine U_imul (n := 61) C dX4_givesTo_60 rfl ?_
        obtain ⟨h12, ev11, hf⟩ := bsome hf
        refine cv_RX4_135 (n := 64) C dX4_givesTo_61 (av := [.int v9, .int (a4 * v10)]) rfl (rc_X4_gives ev11) (M_X4_gives ev11) (Nat.le_of_ble_eq_true rfl) (Nat.zero_le _) (Nat.zero_le _) (Nat.le_of_ble_eq_true rfl) rfl ?_
        refine U_iconst (n := 65) (0 : Int32) C dX4_givesTo_64 kiconst_0 rfl ?_
        obtain ⟨hr1, hr2⟩ := Prod.mk.inj (Option.some.inj hf)
        subst hr1; subst hr2
        subst hQ
        exact U_iret C dX4_givesTo_65 (Nat.le_refl 0) (Nat.le_refl 0)
def f_X4_drops (o : Nat) (a1 : Int32) (a2 : Int32) (a3 : Int32) (h : Hp) : Option (Int32 × Hp) :=
  (rc 4 h o).bind fun _ =>
  (f_X4_arePoints o a1 a2 a3 h).bind fun v1 =>
  if v1 = 0 then (
    some (((1 : Int32), h))
  ) else (
    (f_X4_differ a1 a2 a3).bind fun v3 =>
    if v3 = 0 then (
      some (((2 : Int32), h))
    ) else (
      (f_X4_tripleOf o a1 a2 a3 h).bind fun v5 =>
      (f_X4_get o v5 (1 : Int32) h).bind fun v6 =>
      if v6 = (1 : Int32) then (
        (f_X4_signOf o a1 a2 a3 h).bind fun v8 =>
        bind2 (f_X4_forgets o h) fun v9 h10 =>
        (sF 4 12 (.int (v8 + ((0 : Int32) * v9))) h10 o).bind fun h11 =>
        (f_X4_clears o v5 h11).bind fun h13 =>
        some (((0 : Int32), h13))
      ) else (
        some (((3 : Int32), h))
      )
    )
  )
theorem rc_X4_drops {o : Nat} {a1 : Int32} {a2 : Int32} {a3 : Int32} {h : Hp} {z} (hf : f_X4_drops o a1 a2 a3 h = some z) : rc 4 h o = some () := by
  unfold f_X4_drops at hf
  exact (bsome hf).choose_spec.1
set_option maxHeartbeats 2000000 in
set_option maxRecDepth 20000 in
theorem M_X4_drops {g : GT} {o : Nat} {a1 : Int32} {a2 : Int32} {a3 : Int32} {h : Hp} {r : Int32} {h2 : Hp} (hf : f_X4_drops o a1 a2 a3 h = some (r, h2)) : CM g yX4_drops cX4_drops 5 (some .int) 9 0 0 [.ref o, .int a1, .int a2, .int a3] h (.inr (some (.int r))) h2 := by
  refine CM_of rfl (fun _ => Nat.le_of_ble_eq_true rfl) (fun Γ C hn0 => ?_)
  have C : Cx g Γ cX4_drops RX4 "drops" 5 (some .int) 9 0 0 := C
  generalize hQ : Qe g Γ (.inr (some (.int r))) h2 0 0 = Q
  show U g Γ 5 Q 0 0 0 [(0, .ref o), (1, .int a1), (2, .int a2), (3, .int a3)] [] h
  unfold f_X4_drops at hf
  replace hf := (bsome hf).choose_spec.2
  refine U_aload_n (n := 1) 0 C dX4_drops_0 rfl rfl rfl ?_
  refine U_iload_n (n := 2) 1 C dX4_drops_1 rfl rfl ?_
  refine U_iload_n (n := 3) 2 C dX4_drops_2 rfl rfl ?_
  refine U_iload_n (n := 4) 3 C dX4_drops_3 rfl rfl ?_
  obtain ⟨v1, ev1, hf⟩ := bsome hf
  refine cv_RX4_126 (n := 7) C dX4_drops_4 (av := [.int a1, .int a2, .int a3]) rfl (rc_X4_arePoints ev1) (M_X4_arePoints ev1) (Nat.le_of_ble_eq_true rfl) (Nat.zero_le _) (Nat.zero_le _) (Nat.le_of_ble_eq_true rfl) rfl ?_
  refine U_ifne (tgt := 12) (n := 10) C dX4_drops_7 (by decide) rfl (fun c2 => ?_) (fun c2 => ?_)
  · replace hf := (if_pos c2).symm.trans hf
    refine U_iconst (n := 11) (1 : Int32) C dX4_drops_10 kiconst_1 rfl ?_
    obtain ⟨hr1, hr2⟩ := Prod.mk.inj (Option.some.inj hf)
    subst hr1; subst hr2
    subst hQ
    exact U_iret C dX4_drops_11 (Nat.le_refl 0) (Nat.le_refl 0)
  · replace hf := (if_neg c2).symm.trans hf
    refine U_iload_n (n := 13) 1 C dX4_drops_12 rfl rfl ?_
    refine U_iload_n (n := 14) 2 C dX4_drops_13 rfl rfl ?_
    refine U_iload_n (n := 15) 3 C dX4_drops_14 rfl rfl ?_
    obtain ⟨v3, ev3, hf⟩ := bsome hf
    refine cv_RX4_99 (n := 18) C dX4_drops_15 (av := [.int a1, .int a2, .int a3]) rfl (M_X4_differ ev3) (Nat.le_of_ble_eq_true rfl) (Nat.zero_le _) (Nat.zero_le _) (Nat.le_of_ble_eq_true rfl) rfl ?_
    refine U_ifne (tgt := 23) (n := 21) C dX4_drops_18 (by decide) rfl (fun c4 => ?_) (fun c4 => ?_)
    · replace hf := (if_pos c4).symm.trans hf
      refine U_iconst (n := 22) (2 : Int32) C dX4_drops_21 kiconst_2 rfl ?_
      obtain ⟨hr1, hr2⟩ := Prod.mk.inj (Option.some.inj hf)
      subst hr1; subst hr2
      subst hQ
      exact U_iret C dX4_drops_22 (Nat.le_refl 0) (Nat.le_refl 0)
    · replace hf := (if_neg c4).symm.trans hf
      refine U_aload_n (n := 24) 0 C dX4_drops_23 rfl rfl rfl ?_
      refine U_iload_n (n := 25) 1 C dX4_drops_24 rfl rfl ?_
      refine U_iload_n (n := 26) 2 C dX4_drops_25 rfl rfl ?_
      refine U_iload_n (n := 27) 3 C dX4_drops_26 rfl rfl ?_
      obtain ⟨v5, ev5, hf⟩ := bsome hf
      refine cv_RX4_102 (n := 30) C dX4_drops_27 (av := [.int a1, .int a2, .int a3]) rfl (rc_X4_tripleOf ev5) (M_X4_tripleOf ev5) (Nat.le_of_ble_eq_true rfl) (Nat.zero_le _) (Nat.zero_le _) (Nat.le_of_ble_eq_true rfl) rfl ?_
      refine U_istore (n := 32) (lv2 := [(4, .int v5), (0, .ref o), (1, .int a1), (2, .int a2), (3, .int a3)]) C dX4_drops_30 (by decide) rfl rfl ?_
      refine U_aload_n (n := 33) 1 C dX4_drops_32 rfl rfl rfl ?_
      refine U_iload (n := 35) 0 C dX4_drops_33 rfl rfl ?_
      refine U_iconst (n := 36) (1 : Int32) C dX4_drops_35 kiconst_1 rfl ?_
      obtain ⟨v6, ev6, hf⟩ := bsome hf
      refine cv_RX4_106 (n := 39) C dX4_drops_36 (av := [.int v5, .int (1 : Int32)]) rfl (rc_X4_get ev6) (M_X4_get ev6) (Nat.le_of_ble_eq_true rfl) (Nat.zero_le _) (Nat.zero_le _) (Nat.le_of_ble_eq_true rfl) rfl ?_
      refine U_iconst (n := 40) (1 : Int32) C dX4_drops_39 kiconst_1 rfl ?_
      refine U_iceq (tgt := 45) (n := 43) C dX4_drops_40 (by decide) rfl (fun c7 => ?_) (fun c7 => ?_)
      · replace hf := (if_pos c7).symm.trans hf
        refine U_aload_n (n := 46) 1 C dX4_drops_45 rfl rfl rfl ?_
        refine U_aload_n (n := 47) 1 C dX4_drops_46 rfl rfl rfl ?_
        refine U_iload_n (n := 48) 2 C dX4_drops_47 rfl rfl ?_
        refine U_iload_n (n := 49) 3 C dX4_drops_48 rfl rfl ?_
        refine U_iload_n (n := 50) 4 C dX4_drops_49 rfl rfl ?_
        obtain ⟨v8, ev8, hf⟩ := bsome hf
        refine cv_RX4_129 (n := 53) C dX4_drops_50 (av := [.int a1, .int a2, .int a3]) rfl (rc_X4_signOf ev8) (M_X4_signOf ev8) (Nat.le_of_ble_eq_true rfl) (Nat.zero_le _) (Nat.zero_le _) (Nat.le_of_ble_eq_true rfl) rfl ?_
        refine U_iconst (n := 54) (0 : Int32) C dX4_drops_53 kiconst_0 rfl ?_
        refine U_aload_n (n := 55) 1 C dX4_drops_54 rfl rfl rfl ?_
        obtain ⟨v9, h10, ev9, hf⟩ := bsome2 hf
        refine cv_RX4_122 (n := 58) C dX4_drops_55 (av := []) rfl (rc_X4_forgets ev9) (M_X4_forgets ev9) (Nat.le_of_ble_eq_true rfl) (Nat.zero_le _) (Nat.zero_le _) (Nat.le_of_ble_eq_true rfl) rfl ?_
        refine U_imul (n := 59) C dX4_drops_58 rfl ?_
        refine U_iadd (n := 60) C dX4_drops_59 rfl ?_
        refine pf_RX4_132 (n := 63) C dX4_drops_60 hf rfl (fun h11 hf => ?_)
        refine U_aload_n (n := 64) 1 C dX4_drops_63 rfl rfl rfl ?_
        refine U_iload (n := 66) 0 C dX4_drops_64 rfl rfl ?_
        obtain ⟨h13, ev12, hf⟩ := bsome hf
        refine cv_RX4_81 (n := 69) C dX4_drops_66 (av := [.int v5]) rfl (rc_X4_clears ev12) (M_X4_clears ev12) (Nat.le_of_ble_eq_true rfl) (Nat.zero_le _) (Nat.zero_le _) (Nat.le_of_ble_eq_true rfl) rfl ?_
        refine U_iconst (n := 70) (0 : Int32) C dX4_drops_69 kiconst_0 rfl ?_
        obtain ⟨hr1, hr2⟩ := Prod.mk.inj (Option.some.inj hf)
        subst hr1; subst hr2
        subst hQ
        exact U_iret C dX4_drops_70 (Nat.le_refl 0) (Nat.le_refl 0)
      · replace hf := (if_neg c7).symm.trans hf
        refine U_iconst (n := 44) (3 : Int32) C dX4_drops_43 kiconst_3 rfl ?_
        obtain ⟨hr1, hr2⟩ := Prod.mk.inj (Option.some.inj hf)
        subst hr1; subst hr2
        subst hQ
        exact U_iret C dX4_drops_44 (Nat.le_refl 0) (Nat.le_refl 0)
def f_X4_done (o : Nat) (a1 : Int32) (h : Hp) : Option (Int32 × Hp) :=
  (rc 4 h o).bind fun _ =>
  if a1 ≤ 0 then (
    (fI 4 12 h o).bind fun v2 =>
    bind2 (f_X4_ends o v2 h) fun v3 h4 =>
    some ((v3, h4))
  ) else (
    bind2 (f_X4_fails o a1 h) fun v5 h6 =>
    some ((v5, h6))
  )
theorem rc_X4_done {o : Nat} {a1 : Int32} {h : Hp} {z} (hf : f_X4_done o a1 h = some z) : rc 4 h o = some () := by
  unfold f_X4_done at hf
  exact (bsome hf).choose_spec.1
set_option maxHeartbeats 2000000 in
set_option maxRecDepth 20000 in
theorem M_X4_done {g : GT} {o : Nat} {a1 : Int32} {h : Hp} {r : Int32} {h2 : Hp} (hf : f_X4_done o a1 h = some (r, h2)) : CM g yX4_done cX4_done 2 (some .int) 8 0 0 [.ref o, .int a1] h (.inr (some (.int r))) h2 := by
  refine CM_of rfl (fun _ => Nat.le_of_ble_eq_true rfl) (fun Γ C hn0 => ?_)
  have C : Cx g Γ cX4_done RX4 "done" 2 (some .int) 8 0 0 := C
  generalize hQ : Qe g Γ (.inr (some (.int r))) h2 0 0 = Q
  show U g Γ 2 Q 0 0 0 [(0, .ref o), (1, .int a1)] [] h
  unfold f_X4_done at hf
  replace hf := (bsome hf).choose_spec.2
  refine U_iload_n (n := 1) 1 C dX4_done_0 rfl rfl ?_
  refine U_ifle (tgt := 12) (n := 4) C dX4_done_1 (by decide) rfl (fun c1 => ?_) (fun c1 => ?_)
  · replace hf := (if_pos c1).symm.trans hf
    refine U_aload_n (n := 13) 0 C dX4_done_12 rfl rfl rfl ?_
    refine U_aload_n (n := 14) 0 C dX4_done_13 rfl rfl rfl ?_
    refine gf_RX4_132 (n := 17) C dX4_done_14 hf rfl (fun v2 hf => ?_)
    obtain ⟨v3, h4, ev3, hf⟩ := bsome2 hf
    refine cv_RX4_119 (n := 20) C dX4_done_17 (av := [.int v2]) rfl (rc_X4_ends ev3) (M_X4_ends ev3) (Nat.le_of_ble_eq_true rfl) (Nat.zero_le _) (Nat.zero_le _) (Nat.le_of_ble_eq_true rfl) rfl ?_
    obtain ⟨hr1, hr2⟩ := Prod.mk.inj (Option.some.inj hf)
    subst hr1; subst hr2
    subst hQ
    exact U_iret C dX4_done_20 (Nat.le_refl 0) (Nat.le_refl 0)
  · replace hf := (if_neg c1).symm.trans hf
    refine U_aload_n (n := 5) 0 C dX4_done_4 rfl rfl rfl ?_
    refine U_iload_n (n := 6) 1 C dX4_done_5 rfl rfl ?_
    obtain ⟨v5, h6, ev5, hf⟩ := bsome2 hf
    refine cv_RX4_113 (n := 9) C dX4_done_6 (av := [.int a1]) rfl (rc_X4_fails ev5) (M_X4_fails ev5) (Nat.le_of_ble_eq_true rfl) (Nat.zero_le _) (Nat.zero_le _) (Nat.le_of_ble_eq_true rfl) rfl ?_
    refine U_goto (n := 0) (tgt := 20) C dX4_done_9 (by decide) ?_
    obtain ⟨hr1, hr2⟩ := Prod.mk.inj (Option.some.inj hf)
    subst hr1; subst hr2
    subst hQ
    exact U_iret C dX4_done_20 (Nat.le_refl 0) (Nat.le_refl 0)
def f_X4_give (o : Nat) (a1 : Int32) (a2 : Int32) (a3 : Int32) (a4 : Int32) (h : Hp) : Option (Int32 × Hp) :=
  (rc 4 h o).bind fun _ =>
  (f_X4_hold o h).bind fun h2 =>
  bind2 (f_X4_givesTo o a1 a2 a3 a4 h2) fun v3 h4 =>
  bind2 (f_X4_done o v3 h4) fun v5 h6 =>
  some ((v5, h6))
theorem rc_X4_give {o : Nat} {a1 : Int32} {a2 : Int32} {a3 : Int32} {a4 : Int32} {h : Hp} {z} (hf : f_X4_give o a1 a2 a3 a4 h = some z) : rc 4 h o = some () := by
  unfold f_X4_give at hf
  exact (bsome hf).choose_spec.1
set_option maxHeartbeats 2000000 in
set_option maxRecDepth 20000 in
theorem M_X4_give {g : GT} {o : Nat} {a1 : Int32} {a2 : Int32} {a3 : Int32} {a4 : Int32} {h : Hp} {r : Int32} {h2 : Hp} (hf : f_X4_give o a1 a2 a3 a4 h = some (r, h2)) : CM g yX4_give cX4_give 5 (some .int) 11 0 0 [.ref o, .int a1, .int a2, .int a3, .int a4] h (.inr (some (.int r))) h2 := by
  refine CM_of rfl (fun _ => Nat.le_of_ble_eq_true rfl) (fun Γ C hn0 => ?_)
  have C : Cx g Γ cX4_give RX4 "give" 5 (some .int) 11 0 0 := C
  generalize hQ : Qe g Γ (.inr (some (.int r))) h2 0 0 = Q
  show U g Γ 5 Q 0 0 0 [(0, .ref o), (1, .int a1), (2, .int a2), (3, .int a3), (4, .int a4)] [] h
  unfold f_X4_give at hf
  replace hf := (bsome hf).choose_spec.2
  refine U_aload_n (n := 1) 0 C dX4_give_0 rfl rfl rfl ?_
  obtain ⟨h2, ev1, hf⟩ := bsome hf
  refine cv_RX4_116 (n := 4) C dX4_give_1 (av := []) rfl (rc_X4_hold ev1) (M_X4_hold ev1) (Nat.le_of_ble_eq_true rfl) (Nat.zero_le _) (Nat.zero_le _) (Nat.le_of_ble_eq_true rfl) rfl ?_
  refine U_aload_n (n := 5) 0 C dX4_give_4 rfl rfl rfl ?_
  refine U_aload_n (n := 6) 0 C dX4_give_5 rfl rfl rfl ?_
  refine U_iload_n (n := 7) 1 C dX4_give_6 rfl rfl ?_
  refine U_iload_n (n := 8) 2 C dX4_give_7 rfl rfl ?_
  refine U_iload_n (n := 9) 3 C dX4_give_8 rfl rfl ?_
  refine U_iload (n := 11) 4 C dX4_give_9 rfl rfl ?_
  obtain ⟨v3, h4, ev3, hf⟩ := bsome2 hf
  refine cv_RX4_138 (n := 14) C dX4_give_11 (av := [.int a1, .int a2, .int a3, .int a4]) rfl (rc_X4_givesTo ev3) (M_X4_givesTo ev3) (Nat.le_of_ble_eq_true rfl) (Nat.zero_le _) (Nat.zero_le _) (Nat.le_of_ble_eq_true rfl) rfl ?_
  obtain ⟨v5, h6, ev5, hf⟩ := bsome2 hf
  refine cv_RX4_142 (n := 17) C dX4_give_14 (av := [.int v3]) rfl (rc_X4_done ev5) (M_X4_done ev5) (Nat.le_of_ble_eq_true rfl) (Nat.zero_le _) (Nat.zero_le _) (Nat.le_of_ble_eq_true rfl) rfl ?_
  obtain ⟨hr1, hr2⟩ := Prod.mk.inj (Option.some.inj hf)
  subst hr1; subst hr2
  subst hQ
  exact U_iret C dX4_give_17 (Nat.le_refl 0) (Nat.le_refl 0)
def f_X4_drop (o : Nat) (a1 : Int32) (a2 : Int32) (a3 : Int32) (h : Hp) : Option (Int32 × Hp) :=
  (rc 4 h o).bind fun _ =>
  (f_X4_hold o h).bind fun h2 =>
  bind2 (f_X4_drops o a1 a2 a3 h2) fun v3 h4 =>
  bind2 (f_X4_done o v3 h4) fun v5 h6 =>
  some ((v5, h6))
theorem rc_X4_drop {o : Nat} {a1 : Int32} {a2 : Int32} {a3 : Int32} {h : Hp} {z} (hf : f_X4_drop o a1 a2 a3 h = some z) : rc 4 h o = some () := by
  unfold f_X4_drop at hf
  exact (bsome hf).choose_spec.1
set_option maxHeartbeats 2000000 in
set_option maxRecDepth 20000 in
theorem M_X4_drop {g : GT} {o : Nat} {a1 : Int32} {a2 : Int32} {a3 : Int32} {h : Hp} {r : Int32} {h2 : Hp} (hf : f_X4_drop o a1 a2 a3 h = some (r, h2)) : CM g yX4_drop cX4_drop 4 (some .int) 10 0 0 [.ref o, .int a1, .int a2, .int a3] h (.inr (some (.int r))) h2 := by
  refine CM_of rfl (fun _ => Nat.le_of_ble_eq_true rfl) (fun Γ C hn0 => ?_)
  have C : Cx g Γ cX4_drop RX4 "drop" 4 (some .int) 10 0 0 := C
  generalize hQ : Qe g Γ (.inr (some (.int r))) h2 0 0 = Q
  show U g Γ 4 Q 0 0 0 [(0, .ref o), (1, .int a1), (2, .int a2), (3, .int a3)] [] h
  unfold f_X4_drop at hf
  replace hf := (bsome hf).choose_spec.2
  refine U_aload_n (n := 1) 0 C dX4_drop_0 rfl rfl rfl ?_
  obtain ⟨h2, ev1, hf⟩ := bsome hf
  refine cv_RX4_116 (n := 4) C dX4_drop_1 (av := []) rfl (rc_X4_hold ev1) (M_X4_hold ev1) (Nat.le_of_ble_eq_true rfl) (Nat.zero_le _) (Nat.zero_le _) (Nat.le_of_ble_eq_true rfl) rfl ?_
  refine U_aload_n (n := 5) 0 C dX4_drop_4 rfl rfl rfl ?_
  refine U_aload_n (n := 6) 0 C dX4_drop_5 rfl rfl rfl ?_
  refine U_iload_n (n := 7) 1 C dX4_drop_6 rfl rfl ?_
  refine U_iload_n (n := 8) 2 C dX4_drop_7 rfl rfl ?_
  refine U_iload_n (n := 9) 3 C dX4_drop_8 rfl rfl ?_
  obtain ⟨v3, h4, ev3, hf⟩ := bsome2 hf
  refine cv_RX4_145 (n := 12) C dX4_drop_9 (av := [.int a1, .int a2, .int a3]) rfl (rc_X4_drops ev3) (M_X4_drops ev3) (Nat.le_of_ble_eq_true rfl) (Nat.zero_le _) (Nat.zero_le _) (Nat.le_of_ble_eq_true rfl) rfl ?_
  obtain ⟨v5, h6, ev5, hf⟩ := bsome2 hf
  refine cv_RX4_142 (n := 15) C dX4_drop_12 (av := [.int v3]) rfl (rc_X4_done ev5) (M_X4_done ev5) (Nat.le_of_ble_eq_true rfl) (Nat.zero_le _) (Nat.zero_le _) (Nat.le_of_ble_eq_true rfl) rfl ?_
  obtain ⟨hr1, hr2⟩ := Prod.mk.inj (Option.some.inj hf)
  subst hr1; subst hr2
  subst hQ
  exact U_iret C dX4_drop_15 (Nat.le_refl 0) (Nat.le_refl 0)
def f_X4_setUniform (o : Nat) (a1 : Int32) (h : Hp) : Option (Int32 × Hp) :=
  (rc 4 h o).bind fun _ =>
  (f_X4_hold o h).bind fun h2 =>
  bind2 (f_X4_forgets o h2) fun v3 h4 =>
  (fR 4 0 h4 o).bind fun v5 =>
  (aI h4 v5 (1 : Int32)).bind fun v6 =>
  (
    if v6 = (1 : Int32) then (
      some ((1 : Int32))
    ) else (
      some ((0 : Int32))
    )
  ).bind fun v8 =>
  (fR 4 0 h4 o).bind fun v12 =>
  (
    if a1 = 0 then (
      some ((0 : Int32))
    ) else (
      some ((1 : Int32))
    )
  ).bind fun v14 =>
  (wI h4 v12 (1 : Int32) v14).bind fun h18 =>
  (
    if v8 = 0 then (
      some ((0 : Int32))
    ) else (
      if v3 < 0 then (
        some ((0 : Int32))
      ) else (
        some ((1 : Int32))
      )
    )
  ).bind fun v20 =>
  bind2 (f_X4_ends o v20 h18) fun v24 h25 =>
  if v24 = (1 : Int32) then (
    some (((1 : Int32), h25))
  ) else (
    some (((0 : Int32), h25))
  )
theorem rc_X4_setUniform {o : Nat} {a1 : Int32} {h : Hp} {z} (hf : f_X4_setUniform o a1 h = some z) : rc 4 h o = some () := by
  unfold f_X4_setUniform at hf
  exact (bsome hf).choose_spec.1
set_option maxHeartbeats 2000000 in
set_option maxRecDepth 20000 in
theorem M_X4_setUniform {g : GT} {o : Nat} {a1 : Int32} {h : Hp} {r : Int32} {h2 : Hp} (hf : f_X4_setUniform o a1 h = some (r, h2)) : CM g yX4_setUniform cX4_setUniform 4 (some .boolean) 9 0 0 [.ref o, .int a1] h (.inr (some (.int r))) h2 := by
  refine CM_of rfl (fun _ => Nat.le_of_ble_eq_true rfl) (fun Γ C hn0 => ?_)
  have C : Cx g Γ cX4_setUniform RX4 "setUniform" 4 (some .boolean) 9 0 0 := C
  generalize hQ : Qe g Γ (.inr (some (.int r))) h2 0 0 = Q
  show U g Γ 4 Q 0 0 0 [(0, .ref o), (1, .int a1)] [] h
  unfold f_X4_setUniform at hf
  replace hf := (bsome hf).choose_spec.2
  refine U_aload_n (n := 1) 0 C dX4_setUniform_0 rfl rfl rfl ?_
  obtain ⟨h2, ev1, hf⟩ := bsome hf
  refine cv_RX4_116 (n := 4) C dX4_setUniform_1 (av := []) rfl (rc_X4_hold ev1) (M_X4_hold ev1) (Nat.le_of_ble_eq_true rfl) (Nat.zero_le _) (Nat.zero_le _) (Nat.le_of_ble_eq_true rfl) rfl ?_
  refine U_aload_n (n := 5) 0 C dX4_setUniform_4 rfl rfl rfl ?_
  obtain ⟨v3, h4, ev3, hf⟩ := bsome2 hf
  refine cv_RX4_122 (n := 8) C dX4_setUniform_5 (av := []) rfl (rc_X4_forgets ev3) (M_X4_forgets ev3) (Nat.le_of_ble_eq_true rfl) (Nat.zero_le _) (Nat.zero_le _) (Nat.le_of_ble_eq_true rfl) rfl ?_
  refine U_istore_n (n := 9) (lv2 := [(2, .int v3), (0, .ref o), (1, .int a1)]) C dX4_setUniform_8 (by decide) rfl rfl ?_
  refine U_aload_n (n := 10) 1 C dX4_setUniform_9 rfl rfl rfl ?_
  refine gf_RX4_7 (n := 13) C dX4_setUniform_10 hf rfl (fun v5 hf => ?_)
  refine U_iconst (n := 14) (1 : Int32) C dX4_setUniform_13 kiconst_1 rfl ?_
  refine U_iald (n := 15) C dX4_setUniform_14 hf rfl (fun v6 hf => ?_)
  refine U_iconst (n := 16) (1 : Int32) C dX4_setUniform_15 kiconst_1 rfl ?_
  refine U_join1 (fun v8 => U g Γ 4 Q 0 0 24 [(0, .ref o), (1, .int a1), (2, .int v3)] [.int v8] h4) hf (fun v8 hf => ?_) (fun v8 hf J10 => ?_)
  · skip
    refine U_istore_n (n := 25) (lv2 := [(3, .int v8), (0, .ref o), (1, .int a1), (2, .int v3)]) C dX4_setUniform_24 (by decide) rfl rfl ?_
    refine U_aload_n (n := 26) 1 C dX4_setUniform_25 rfl rfl rfl ?_
    refine gf_RX4_7 (n := 29) C dX4_setUniform_26 hf rfl (fun v12 hf => ?_)
    refine U_iconst (n := 30) (1 : Int32) C dX4_setUniform_29 kiconst_1 rfl ?_
    refine U_iload_n (n := 31) 2 C dX4_setUniform_30 rfl rfl ?_
    refine U_join1 (fun v14 => U g Γ 4 Q 0 0 39 [(0, .ref o), (2, .int v3), (3, .int v8)] [.int v14, .int (1 : Int32), .ref v12] h4) hf (fun v14 hf => ?_) (fun v14 hf J16 => ?_)
    · skip
      refine U_iast (n := 40) C dX4_setUniform_39 hf rfl (fun h18 hf => ?_)
      refine U_aload_n (n := 41) 0 C dX4_setUniform_40 rfl rfl rfl ?_
      refine U_iload_n (n := 42) 2 C dX4_setUniform_41 rfl rfl ?_
      refine U_join1 (fun v20 => U g Γ 4 Q 0 0 54 [] [.int v20, .ref o] h18) hf (fun v20 hf => ?_) (fun v20 hf J22 => ?_)
      · skip
        obtain ⟨v24, h25, ev24, hf⟩ := bsome2 hf
        refine cv_RX4_119 (n := 57) C dX4_setUniform_54 (av := [.int v20]) rfl (rc_X4_ends ev24) (M_X4_ends ev24) (Nat.le_of_ble_eq_true rfl) (Nat.zero_le _) (Nat.zero_le _) (Nat.le_of_ble_eq_true rfl) rfl ?_
        refine U_iconst (n := 58) (1 : Int32) C dX4_setUniform_57 kiconst_1 rfl ?_
        refine U_icne (tgt := 65) (n := 61) C dX4_setUniform_58 (by decide) rfl (fun c26 => ?_) (fun c26 => ?_)
        · replace hf := (if_pos c26).symm.trans hf
          refine U_iconst (n := 62) (1 : Int32) C dX4_setUniform_61 kiconst_1 rfl ?_
          refine U_goto (n := 0) (tgt := 66) C dX4_setUniform_62 (by decide) ?_
          obtain ⟨hr1, hr2⟩ := Prod.mk.inj (Option.some.inj hf)
          subst hr1; subst hr2
          subst hQ
          exact U_zret C dX4_setUniform_66 (Or.inr rfl) (Nat.le_refl 0) (Nat.le_refl 0)
        · replace hf := (if_neg c26).symm.trans hf
          refine U_iconst (n := 66) (0 : Int32) C dX4_setUniform_65 kiconst_0 rfl ?_
          obtain ⟨hr1, hr2⟩ := Prod.mk.inj (Option.some.inj hf)
          subst hr1; subst hr2
          subst hQ
          exact U_zret C dX4_setUniform_66 (Or.inl rfl) (Nat.le_refl 0) (Nat.le_refl 0)
      · skip
        refine U_ifeq (tgt := 53) (n := 45) C dX4_setUniform_42 (by decide) rfl (fun c19 => ?_) (fun c19 => ?_)
        · replace hf := (if_pos c19).symm.trans hf
          refine U_iconst (n := 54) (0 : Int32) C dX4_setUniform_53 kiconst_0 rfl ?_
          have hr := Option.some.inj hf
          subst hr
          exact U_lv [] rfl J22
        · replace hf := (if_neg c19).symm.trans hf
          refine U_iload_n (n := 46) 1 C dX4_setUniform_45 rfl rfl ?_
          refine U_iflt (tgt := 53) (n := 49) C dX4_setUniform_46 (by decide) rfl (fun c27 => ?_) (fun c27 => ?_)
          · replace hf := (if_pos c27).symm.trans hf
            refine U_iconst (n := 54) (0 : Int32) C dX4_setUniform_53 kiconst_0 rfl ?_
            have hr := Option.some.inj hf
            subst hr
            exact U_lv [] rfl J22
          · replace hf := (if_neg c27).symm.trans hf
            refine U_iconst (n := 50) (1 : Int32) C dX4_setUniform_49 kiconst_1 rfl ?_
            refine U_goto (n := 0) (tgt := 54) C dX4_setUniform_50 (by decide) ?_
            have hr := Option.some.inj hf
            subst hr
            exact U_lv [] rfl J22
    · skip
      refine U_ifeq (tgt := 38) (n := 34) C dX4_setUniform_31 (by decide) rfl (fun c13 => ?_) (fun c13 => ?_)
      · replace hf := (if_pos c13).symm.trans hf
        refine U_iconst (n := 39) (0 : Int32) C dX4_setUniform_38 kiconst_0 rfl ?_
        have hr := Option.some.inj hf
        subst hr
        exact U_lv [1, 3, 0] rfl J16
      · replace hf := (if_neg c13).symm.trans hf
        refine U_iconst (n := 35) (1 : Int32) C dX4_setUniform_34 kiconst_1 rfl ?_
        refine U_goto (n := 0) (tgt := 39) C dX4_setUniform_35 (by decide) ?_
        have hr := Option.some.inj hf
        subst hr
        exact U_lv [1, 3, 0] rfl J16
  · skip
    refine U_icne (tgt := 23) (n := 19) C dX4_setUniform_16 (by decide) rfl (fun c7 => ?_) (fun c7 => ?_)
    · replace hf := (if_pos c7).symm.trans hf
      refine U_iconst (n := 20) (1 : Int32) C dX4_setUniform_19 kiconst_1 rfl ?_
      refine U_goto (n := 0) (tgt := 24) C dX4_setUniform_20 (by decide) ?_
      have hr := Option.some.inj hf
      subst hr
      exact U_lv [1, 2, 0] rfl J10
    · replace hf := (if_neg c7).symm.trans hf
      refine U_iconst (n := 24) (0 : Int32) C dX4_setUniform_23 kiconst_0 rfl ?_
      have hr := Option.some.inj hf
      subst hr
      exact U_lv [1, 2, 0] rfl J10
def f_X4_looks (o : Nat) (a1 : Int32) (a2 : Int32) (a3 : Int32) (a4 : Int32) (h : Hp) : Option Hp :=
  (rc 4 h o).bind fun _ =>
  (fR 4 10 h o).bind fun v1 =>
  (aI h v1 ((5 : Int32) * a1)).bind fun v2 =>
  (fR 4 10 h o).bind fun v3 =>
  (aI h v3 (((5 : Int32) * a1) + a3)).bind fun v4 =>
  (fR 4 10 h o).bind fun v5 =>
  (aI h v5 (((5 : Int32) * a1) + a4)).bind fun v6 =>
  (fR 4 13 h o).bind fun v7 =>
  (f_X4_tripleOf o v2 v4 v6 h).bind fun v8 =>
  (wI h v7 a2 v8).bind fun h9 =>
  (fR 4 14 h9 o).bind fun v10 =>
  (f_X4_parity v2 v4 v6).bind fun v11 =>
  (wI h9 v10 a2 v11).bind fun h12 =>
  some (h12)
theorem rc_X4_looks {o : Nat} {a1 : Int32} {a2 : Int32} {a3 : Int32} {a4 : Int32} {h : Hp} {z} (hf : f_X4_looks o a1 a2 a3 a4 h = some z) : rc 4 h o = some () := by
  unfold f_X4_looks at hf
  exact (bsome hf).choose_spec.1
set_option maxHeartbeats 2000000 in
set_option maxRecDepth 20000 in
theorem M_X4_looks {g : GT} {o : Nat} {a1 : Int32} {a2 : Int32} {a3 : Int32} {a4 : Int32} {h : Hp} {h2 : Hp} (hf : f_X4_looks o a1 a2 a3 a4 h = some h2) : CM g yX4_looks cX4_looks 8 none 7 0 0 [.ref o, .int a1, .int a2, .int a3, .int a4] h (.inr none) h2 := by
  refine CM_of rfl (fun _ => Nat.le_of_ble_eq_true rfl) (fun Γ C hn0 => ?_)
  have C : Cx g Γ cX4_looks RX4 "looks" 8 none 7 0 0 := C
  generalize hQ : Qe g Γ (.inr none) h2 0 0 = Q
  show U g Γ 8 Q 0 0 0 [(0, .ref o), (1, .int a1), (2, .int a2), (3, .int a3), (4, .int a4)] [] h
  unfold f_X4_looks at hf
  replace hf := (bsome hf).choose_spec.2
  refine U_aload_n (n := 1) 0 C dX4_looks_0 rfl rfl rfl ?_
  refine gf_RX4_28 (n := 4) C dX4_looks_1 hf rfl (fun v1 hf => ?_)
  refine U_iconst (n := 5) (5 : Int32) C dX4_looks_4 kiconst_5 rfl ?_
  refine U_iload_n (n := 6) 1 C dX4_looks_5 rfl rfl ?_
  refine U_imul (n := 7) C dX4_looks_6 rfl ?_
  refine U_iald (n := 8) C dX4_looks_7 hf rfl (fun v2 hf => ?_)
  refine U_istore (n := 10) (lv2 := [(5, .int v2), (0, .ref o), (1, .int a1), (2, .int a2), (3, .int a3), (4, .int a4)]) C dX4_looks_8 (by decide) rfl rfl ?_
  refine U_aload_n (n := 11) 1 C dX4_looks_10 rfl rfl rfl ?_
  refine gf_RX4_28 (n := 14) C dX4_looks_11 hf rfl (fun v3 hf => ?_)
  refine U_iconst (n := 15) (5 : Int32) C dX4_looks_14 kiconst_5 rfl ?_
  refine U_iload_n (n := 16) 2 C dX4_looks_15 rfl rfl ?_
  refine U_imul (n := 17) C dX4_looks_16 rfl ?_
  refine U_iload_n (n := 18) 4 C dX4_looks_17 rfl rfl ?_
  refine U_iadd (n := 19) C dX4_looks_18 rfl ?_
  refine U_iald (n := 20) C dX4_looks_19 hf rfl (fun v4 hf => ?_)
  refine U_istore (n := 22) (lv2 := [(6, .int v4), (5, .int v2), (0, .ref o), (1, .int a1), (2, .int a2), (3, .int a3), (4, .int a4)]) C dX4_looks_20 (by decide) rfl rfl ?_
  refine U_aload_n (n := 23) 2 C dX4_looks_22 rfl rfl rfl ?_
  refine gf_RX4_28 (n := 26) C dX4_looks_23 hf rfl (fun v5 hf => ?_)
  refine U_iconst (n := 27) (5 : Int32) C dX4_looks_26 kiconst_5 rfl ?_
  refine U_iload_n (n := 28) 3 C dX4_looks_27 rfl rfl ?_
  refine U_imul (n := 29) C dX4_looks_28 rfl ?_
  refine U_iload (n := 31) 6 C dX4_looks_29 rfl rfl ?_
  refine U_iadd (n := 32) C dX4_looks_31 rfl ?_
  refine U_iald (n := 33) C dX4_looks_32 hf rfl (fun v6 hf => ?_)
  refine U_istore (n := 35) (lv2 := [(7, .int v6), (6, .int v4), (5, .int v2), (0, .ref o), (1, .int a1), (2, .int a2), (3, .int a3), (4, .int a4)]) C dX4_looks_33 (by decide) rfl rfl ?_
  refine U_aload_n (n := 36) 3 C dX4_looks_35 rfl rfl rfl ?_
  refine gf_RX4_31 (n := 39) C dX4_looks_36 hf rfl (fun v7 hf => ?_)
  refine U_iload_n (n := 40) 5 C dX4_looks_39 rfl rfl ?_
  refine U_aload_n (n := 41) 3 C dX4_looks_40 rfl rfl rfl ?_
  refine U_iload (n := 43) 2 C dX4_looks_41 rfl rfl ?_
  refine U_iload (n := 45) 1 C dX4_looks_43 rfl rfl ?_
  refine U_iload (n := 47) 0 C dX4_looks_45 rfl rfl ?_
  obtain ⟨v8, ev8, hf⟩ := bsome hf
  refine cv_RX4_102 (n := 50) C dX4_looks_47 (av := [.int v2, .int v4, .int v6]) rfl (rc_X4_tripleOf ev8) (M_X4_tripleOf ev8) (Nat.le_of_ble_eq_true rfl) (Nat.zero_le _) (Nat.zero_le _) (Nat.le_of_ble_eq_true rfl) rfl ?_
  refine U_iast (n := 51) C dX4_looks_50 hf rfl (fun h9 hf => ?_)
  refine U_aload_n (n := 52) 3 C dX4_looks_51 rfl rfl rfl ?_
  refine gf_RX4_34 (n := 55) C dX4_looks_52 hf rfl (fun v10 hf => ?_)
  refine U_iload_n (n := 56) 5 C dX4_looks_55 rfl rfl ?_
  refine U_iload (n := 58) 2 C dX4_looks_56 rfl rfl ?_
  refine U_iload (n := 60) 1 C dX4_looks_58 rfl rfl ?_
  refine U_iload (n := 62) 0 C dX4_looks_60 rfl rfl ?_
  obtain ⟨v11, ev11, hf⟩ := bsome hf
  refine cv_RX4_110 (n := 65) C dX4_looks_62 (av := [.int v2, .int v4, .int v6]) rfl (M_X4_parity ev11) (Nat.le_of_ble_eq_true rfl) (Nat.zero_le _) (Nat.zero_le _) (Nat.le_of_ble_eq_true rfl) rfl ?_
  refine U_iast (n := 66) C dX4_looks_65 hf rfl (fun h12 hf => ?_)
  have hr := (Option.some.inj hf)
  subst hr
  subst hQ
  exact U_vret C dX4_looks_66 (Nat.le_refl 0) (Nat.le_refl 0)
def f_X4_looksAt (o : Nat) (a1 : Int32) (h : Hp) : Option Hp :=
  (rc 4 h o).bind fun _ =>
  (f_X4_looks o a1 (0 : Int32) (1 : Int32) (2 : Int32) h).bind fun h2 =>
  (f_X4_looks o a1 (1 : Int32) (3 : Int32) (4 : Int32) h2).bind fun h4 =>
  (f_X4_looks o a1 (2 : Int32) (1 : Int32) (3 : Int32) h4).bind fun h6 =>
  (f_X4_looks o a1 (3 : Int32) (2 : Int32) (4 : Int32) h6).bind fun h8 =>
  (f_X4_looks o a1 (4 : Int32) (1 : Int32) (4 : Int32) h8).bind fun h10 =>
  (f_X4_looks o a1 (5 : Int32) (2 : Int32) (3 : Int32) h10).bind fun h12 =>
  some (h12)
theorem rc_X4_looksAt {o : Nat} {a1 : Int32} {h : Hp} {z} (hf : f_X4_looksAt o a1 h = some z) : rc 4 h o = some () := by
  unfold f_X4_looksAt at hf
  exact (bsome hf).choose_spec.1
set_option maxHeartbeats 2000000 in
set_option maxRecDepth 20000 in
theorem M_X4_looksAt {g : GT} {o : Nat} {a1 : Int32} {h : Hp} {h2 : Hp} (hf : f_X4_looksAt o a1 h = some h2) : CM g yX4_looksAt cX4_looksAt 2 none 8 0 0 [.ref o, .int a1] h (.inr none) h2 := by
  refine CM_of rfl (fun _ => Nat.le_of_ble_eq_true rfl) (fun Γ C hn0 => ?_)
  have C : Cx g Γ cX4_looksAt RX4 "looksAt" 2 none 8 0 0 := C
  generalize hQ : Qe g Γ (.inr none) h2 0 0 = Q
  show U g Γ 2 Q 0 0 0 [(0, .ref o), (1, .int a1)] [] h
  unfold f_X4_looksAt at hf
  replace hf := (bsome hf).choose_spec.2
  refine U_aload_n (n := 1) 0 C dX4_looksAt_0 rfl rfl rfl ?_
  refine U_iload_n (n := 2) 1 C dX4_looksAt_1 rfl rfl ?_
  refine U_iconst (n := 3) (0 : Int32) C dX4_looksAt_2 kiconst_0 rfl ?_
  refine U_iconst (n := 4) (1 : Int32) C dX4_looksAt_3 kiconst_1 rfl ?_
  refine U_iconst (n := 5) (2 : Int32) C dX4_looksAt_4 kiconst_2 rfl ?_
  obtain ⟨h2, ev1, hf⟩ := bsome hf
  refine cv_RX4_148 (n := 8) C dX4_looksAt_5 (av := [.int a1, .int (0 : Int32), .int (1 : Int32), .int (2 : Int32)]) rfl (rc_X4_looks ev1) (M_X4_looks ev1) (Nat.le_of_ble_eq_true rfl) (Nat.zero_le _) (Nat.zero_le _) (Nat.le_of_ble_eq_true rfl) rfl ?_
  refine U_aload_n (n := 9) 0 C dX4_looksAt_8 rfl rfl rfl ?_
  refine U_iload_n (n := 10) 1 C dX4_looksAt_9 rfl rfl ?_
  refine U_iconst (n := 11) (1 : Int32) C dX4_looksAt_10 kiconst_1 rfl ?_
  refine U_iconst (n := 12) (3 : Int32) C dX4_looksAt_11 kiconst_3 rfl ?_
  refine U_iconst (n := 13) (4 : Int32) C dX4_looksAt_12 kiconst_4 rfl ?_
  obtain ⟨h4, ev3, hf⟩ := bsome hf
  refine cv_RX4_148 (n := 16) C dX4_looksAt_13 (av := [.int a1, .int (1 : Int32), .int (3 : Int32), .int (4 : Int32)]) rfl (rc_X4_looks ev3) (M_X4_looks ev3) (Nat.le_of_ble_eq_true rfl) (Nat.zero_le _) (Nat.zero_le _) (Nat.le_of_ble_eq_true rfl) rfl ?_
  refine U_aload_n (n := 17) 0 C dX4_looksAt_16 rfl rfl rfl ?_
  refine U_iload_n (n := 18) 1 C dX4_looksAt_17 rfl rfl ?_
  refine U_iconst (n := 19) (2 : Int32) C dX4_looksAt_18 kiconst_2 rfl ?_
  refine U_iconst (n := 20) (1 : Int32) C dX4_looksAt_19 kiconst_1 rfl ?_
  refine U_iconst (n := 21) (3 : Int32) C dX4_looksAt_20 kiconst_3 rfl ?_
  obtain ⟨h6, ev5, hf⟩ := bsome hf
  refine cv_RX4_148 (n := 24) C dX4_looksAt_21 (av := [.int a1, .int (2 : Int32), .int (1 : Int32), .int (3 : Int32)]) rfl (rc_X4_looks ev5) (M_X4_looks ev5) (Nat.le_of_ble_eq_true rfl) (Nat.zero_le _) (Nat.zero_le _) (Nat.le_of_ble_eq_true rfl) rfl ?_
  refine U_aload_n (n := 25) 0 C dX4_looksAt_24 rfl rfl rfl ?_
  refine U_iload_n (n := 26) 1 C dX4_looksAt_25 rfl rfl ?_
  refine U_iconst (n := 27) (3 : Int32) C dX4_looksAt_26 kiconst_3 rfl ?_
  refine U_iconst (n := 28) (2 : Int32) C dX4_looksAt_27 kiconst_2 rfl ?_
  refine U_iconst (n := 29) (4 : Int32) C dX4_looksAt_28 kiconst_4 rfl ?_
  obtain ⟨h8, ev7, hf⟩ := bsome hf
  refine cv_RX4_148 (n := 32) C dX4_looksAt_29 (av := [.int a1, .int (3 : Int32), .int (2 : Int32), .int (4 : Int32)]) rfl (rc_X4_looks ev7) (M_X4_looks ev7) (Nat.le_of_ble_eq_true rfl) (Nat.zero_le _) (Nat.zero_le _) (Nat.le_of_ble_eq_true rfl) rfl ?_
  refine U_aload_n (n := 33) 0 C dX4_looksAt_32 rfl rfl rfl ?_
  refine U_iload_n (n := 34) 1 C dX4_looksAt_33 rfl rfl ?_
  refine U_iconst (n := 35) (4 : Int32) C dX4_looksAt_34 kiconst_4 rfl ?_
  refine U_iconst (n := 36) (1 : Int32) C dX4_looksAt_35 kiconst_1 rfl ?_
  refine U_iconst (n := 37) (4 : Int32) C dX4_looksAt_36 kiconst_4 rfl ?_
  obtain ⟨h10, ev9, hf⟩ := bsome hf
  refine cv_RX4_148 (n := 40) C dX4_looksAt_37 (av := [.int a1, .int (4 : Int32), .int (1 : Int32), .int (4 : Int32)]) rfl (rc_X4_looks ev9) (M_X4_looks ev9) (Nat.le_of_ble_eq_true rfl) (Nat.zero_le _) (Nat.zero_le _) (Nat.le_of_ble_eq_true rfl) rfl ?_
  refine U_aload_n (n := 41) 0 C dX4_looksAt_40 rfl rfl rfl ?_
  refine U_iload_n (n := 42) 1 C dX4_looksAt_41 rfl rfl ?_
  refine U_iconst (n := 43) (5 : Int32) C dX4_looksAt_42 kiconst_5 rfl ?_
  refine U_iconst (n := 44) (2 : Int32) C dX4_looksAt_43 kiconst_2 rfl ?_
  refine U_iconst (n := 45) (3 : Int32) C dX4_looksAt_44 kiconst_3 rfl ?_
  obtain ⟨h12, ev11, hf⟩ := bsome hf
  refine cv_RX4_148 (n := 48) C dX4_looksAt_45 (av := [.int a1, .int (5 : Int32), .int (2 : Int32), .int (3 : Int32)]) rfl (rc_X4_looks ev11) (M_X4_looks ev11) (Nat.le_of_ble_eq_true rfl) (Nat.zero_le _) (Nat.zero_le _) (Nat.le_of_ble_eq_true rfl) rfl ?_
  have hr := (Option.some.inj hf)
  subst hr
  subst hQ
  exact U_vret C dX4_looksAt_48 (Nat.le_refl 0) (Nat.le_refl 0)
def l_X4_unknowns_4 (p0 : Nat) (h : Hp) : Nat → Int32 → Int32 → Option Int32
  | 0, _, _ => none
  | fuel + 1, x1, x2 =>
    if (6 : Int32) ≤ x2 then (
      some x1
    ) else (
      (fR 4 13 h p0).bind fun v2 =>
      (aI h v2 x2).bind fun v3 =>
      (f_X4_get p0 v3 (0 : Int32) h).bind fun v4 =>
      (
        if v4 = (-100 : Int32) then (
          some ((1 : Int32))
        ) else (
          some ((0 : Int32))
        )
      ).bind fun v6 =>
      l_X4_unknowns_4 p0 h fuel (x1 + v6) (x2 + 1)
    )
def f_X4_unknowns (o : Nat) (h : Hp) : Option Int32 :=
  (rc 4 h o).bind fun _ =>
  (l_X4_unknowns_4 o h FU (0 : Int32) (0 : Int32)).bind fun v10 =>
  some (v10)
set_option maxHeartbeats 2000000 in
set_option maxRecDepth 20000 in
theorem L_X4_unknowns_4 {g : GT} {Γ : CT} {Q : State → Prop} {mc ms : Nat} (C : Cx g Γ cX4_unknowns RX4 "unknowns" 3 (some .int) 7 mc ms) {p0 : Nat} {h : Hp} : ∀ {fuel : Nat} {x1 : Int32} {x2 : Int32} {y1 : Int32}, l_X4_unknowns_4 p0 h fuel x1 x2 = some y1 → U g Γ 3 Q 0 0 40 [(1, .int y1)] [] h → U g Γ 3 Q 0 0 4 [(0, .ref p0), (1, .int x1), (2, .int x2)] [] h := by
  intro fuel
  induction fuel with
  | zero =>
    intro x1 x2 y1 hf J0
    simp only [l_X4_unknowns_4, reduceCtorEq] at hf
  | succ fuel ih =>
    intro x1 x2 y1 hf J0
    rw [l_X4_unknowns_4] at hf
    refine U_iload_n (n := 5) 2 C dX4_unknowns_4 rfl rfl ?_
    refine U_bipush (n := 7) (6 : Int32) C dX4_unknowns_5 kbipush_6 rfl ?_
    refine U_icge (tgt := 40) (n := 10) C dX4_unknowns_7 (by decide) rfl (fun c1 => ?_) (fun c1 => ?_)
    · replace hf := (if_pos c1).symm.trans hf
      have hr := Option.some.inj hf
      subst hr
      exact U_lv [1] rfl J0
    · replace hf := (if_neg c1).symm.trans hf
      refine U_iload_n (n := 11) 1 C dX4_unknowns_10 rfl rfl ?_
      refine U_aload_n (n := 12) 0 C dX4_unknowns_11 rfl rfl rfl ?_
      refine U_aload_n (n := 13) 0 C dX4_unknowns_12 rfl rfl rfl ?_
      refine gf_RX4_31 (n := 16) C dX4_unknowns_13 hf rfl (fun v2 hf => ?_)
      refine U_iload_n (n := 17) 2 C dX4_unknowns_16 rfl rfl ?_
      refine U_iald (n := 18) C dX4_unknowns_17 hf rfl (fun v3 hf => ?_)
      refine U_iconst (n := 19) (0 : Int32) C dX4_unknowns_18 kiconst_0 rfl ?_
      obtain ⟨v4, ev4, hf⟩ := bsome hf
      refine cv_RX4_106 (n := 22) C dX4_unknowns_19 (av := [.int v3, .int (0 : Int32)]) rfl (rc_X4_get ev4) (M_X4_get ev4) (Nat.le_of_ble_eq_true rfl) (Nat.zero_le _) (Nat.zero_le _) (Nat.le_of_ble_eq_true rfl) rfl ?_
      refine U_bipush (n := 24) (-100 : Int32) C dX4_unknowns_22 kbipush_m100 rfl ?_
      refine U_join1 (fun v6 => U g Γ 3 Q 0 0 32 [(0, .ref p0), (2, .int x2)] [.int v6, .int x1] h) hf (fun v6 hf => ?_) (fun v6 hf J8 => ?_)
      · skip
        refine U_iadd (n := 33) C dX4_unknowns_32 rfl ?_
        refine U_istore_n (n := 34) (lv2 := [(1, .int (x1 + v6)), (0, .ref p0), (2, .int x2)]) C dX4_unknowns_33 (by decide) rfl rfl ?_
        refine U_iinc (n := 37) (v := (x2 + 1)) (lv2 := [(2, .int (x2 + 1)), (1, .int (x1 + v6)), (0, .ref p0)]) 2 C dX4_unknowns_34 rfl rfl (by decide) rfl rfl ?_
        refine U_goto (n := 0) (tgt := 4) C dX4_unknowns_37 (by decide) ?_
        exact U_lv [2, 1, 0] rfl (ih hf J0)
      · skip
        refine U_icne (tgt := 31) (n := 27) C dX4_unknowns_24 (by decide) rfl (fun c5 => ?_) (fun c5 => ?_)
        · replace hf := (if_pos c5).symm.trans hf
          refine U_iconst (n := 28) (1 : Int32) C dX4_unknowns_27 kiconst_1 rfl ?_
          refine U_goto (n := 0) (tgt := 32) C dX4_unknowns_28 (by decide) ?_
          have hr := Option.some.inj hf
          subst hr
          exact U_lv [0, 2] rfl J8
        · replace hf := (if_neg c5).symm.trans hf
          refine U_iconst (n := 32) (0 : Int32) C dX4_unknowns_31 kiconst_0 rfl ?_
          have hr := Option.some.inj hf
          subst hr
          exact U_lv [0, 2] rfl J8
theorem rc_X4_unknowns {o : Nat} {h : Hp} {z} (hf : f_X4_unknowns o h = some z) : rc 4 h o = some () := by
  unfold f_X4_unknowns at hf
  exact (bsome hf).choose_spec.1
set_option maxHeartbeats 2000000 in
set_option maxRecDepth 20000 in
theorem M_X4_unknowns {g : GT} {o : Nat} {h : Hp} {r : Int32} (hf : f_X4_unknowns o h = some r) : CM g yX4_unknowns cX4_unknowns 3 (some .int) 7 0 0 [.ref o] h (.inr (some (.int r))) h := by
  refine CM_of rfl (fun _ => Nat.le_of_ble_eq_true rfl) (fun Γ C hn0 => ?_)
  have C : Cx g Γ cX4_unknowns RX4 "unknowns" 3 (some .int) 7 0 0 := C
  generalize hQ : Qe g Γ (.inr (some (.int r))) h 0 0 = Q
  show U g Γ 3 Q 0 0 0 [(0, .ref o)] [] h
  unfold f_X4_unknowns at hf
  replace hf := (bsome hf).choose_spec.2
  refine U_iconst (n := 1) (0 : Int32) C dX4_unknowns_0 kiconst_0 rfl ?_
  refine U_istore_n (n := 2) (lv2 := [(1, .int (0 : Int32)), (0, .ref o)]) C dX4_unknowns_1 (by decide) rfl rfl ?_
  refine U_iconst (n := 3) (0 : Int32) C dX4_unknowns_2 kiconst_0 rfl ?_
  refine U_istore_n (n := 4) (lv2 := [(2, .int (0 : Int32)), (1, .int (0 : Int32)), (0, .ref o)]) C dX4_unknowns_3 (by decide) rfl rfl ?_
  refine U_join1 (fun v10 => U g Γ 3 Q 0 0 40 [(1, .int v10)] [] h) hf (fun v10 hf => ?_) (fun v10 hf J => U_lv [2, 1, 0] rfl (L_X4_unknowns_4 C hf J))
  refine U_iload_n (n := 41) 0 C dX4_unknowns_40 rfl rfl ?_
  have hr := (Option.some.inj hf)
  subst hr
  subst hQ
  exact U_iret C dX4_unknowns_41 (Nat.le_refl 0) (Nat.le_refl 0)
def l_X4_isFulfilled_32 (p0 : Nat) (p1 : Int32) (p4 : Int32) (h : Hp) : Nat → Int32 → Int32 → Option Int32
  | 0, _, _ => none
  | fuel + 1, x5, x6 =>
    if (((2 : Int32) * p4) + (2 : Int32)) ≤ x6 then (
      some x5
    ) else (
      (fR 4 13 h p0).bind fun v8 =>
      (aI h v8 x6).bind fun v9 =>
      (f_X4_get p0 v9 (0 : Int32) h).bind fun v10 =>
      (fR 4 14 h p0).bind fun v11 =>
      (aI h v11 x6).bind fun v12 =>
      (
        if v10 = (-100 : Int32) then (
          some p1
        ) else (
          some v10
        )
      ).bind fun v14 =>
      l_X4_isFulfilled_32 p0 p1 p4 h fuel (x5 * (v12 * v14)) (x6 + 1)
    )
def l_X4_isFulfilled_7 (p0 : Nat) (p1 : Int32) (h : Hp) : Nat → Int32 → Int32 → Int32 → Option (Int32 × Int32)
  | 0, _, _, _ => none
  | fuel + 1, x2, x3, x4 =>
    if (3 : Int32) ≤ x4 then (
      some ((x2, x3))
    ) else (
      (
        if x4 = (1 : Int32) then (
          some ((-1 : Int32))
        ) else (
          some ((1 : Int32))
        )
      ).bind fun v3 =>
      (l_X4_isFulfilled_32 p0 p1 x4 h FU v3 ((2 : Int32) * x4)).bind fun v18 =>
      (
        if x2 = 0 then (
          if v18 ≤ 0 then (
            some ((0 : Int32))
          ) else (
            some ((1 : Int32))
          )
        ) else (
          some ((1 : Int32))
        )
      ).bind fun v20 =>
      (
        if x3 = 0 then (
          if 0 ≤ v18 then (
            some ((0 : Int32))
          ) else (
            some ((1 : Int32))
          )
        ) else (
          some ((1 : Int32))
        )
      ).bind fun v25 =>
      l_X4_isFulfilled_7 p0 p1 h fuel v20 v25 (x4 + 1)
    )
def f_X4_isFulfilled (o : Nat) (a1 : Int32) (h : Hp) : Option Int32 :=
  (rc 4 h o).bind fun _ =>
  bind2 (l_X4_isFulfilled_7 o a1 h FU (0 : Int32) (0 : Int32) (0 : Int32)) fun v31 v32 =>
  if v31 = v32 then (
    some ((1 : Int32))
  ) else (
    some ((0 : Int32))
  )
set_option maxHeartbeats 2000000 in
set_option maxRecDepth 20000 in
theorem L_X4_isFulfilled_32 {g : GT} {Γ : CT} {Q : State → Prop} {mc ms : Nat} (C : Cx g Γ cX4_isFulfilled RX4 "isFulfilled" 8 (some .boolean) 7 mc ms) {p0 : Nat} {p1 : Int32} {p2 : Int32} {p3 : Int32} {p4 : Int32} {h : Hp} : ∀ {fuel : Nat} {x5 : Int32} {x6 : Int32} {y5 : Int32}, l_X4_isFulfilled_32 p0 p1 p4 h fuel x5 x6 = some y5 → U g Γ 8 Q 0 0 89 [(0, .ref p0), (1, .int p1), (2, .int p2), (3, .int p3), (4, .int p4), (5, .int y5)] [] h → U g Γ 8 Q 0 0 32 [(0, .ref p0), (1, .int p1), (2, .int p2), (3, .int p3), (4, .int p4), (5, .int x5), (6, .int x6)] [] h := by
  intro fuel
  induction fuel with
  | zero =>
    intro x5 x6 y5 hf J0
    simp only [l_X4_isFulfilled_32, reduceCtorEq] at hf
  | succ fuel ih =>
    intro x5 x6 y5 hf J0
    rw [l_X4_isFulfilled_32] at hf
    refine U_iload (n := 34) 6 C dX4_isFulfilled_32 rfl rfl ?_
    refine U_iconst (n := 35) (2 : Int32) C dX4_isFulfilled_34 kiconst_2 rfl ?_
    refine U_iload (n := 37) 4 C dX4_isFulfilled_35 rfl rfl ?_
    refine U_imul (n := 38) C dX4_isFulfilled_37 rfl ?_
    refine U_iconst (n := 39) (2 : Int32) C dX4_isFulfilled_38 kiconst_2 rfl ?_
    refine U_iadd (n := 40) C dX4_isFulfilled_39 rfl ?_
    refine U_icge (tgt := 89) (n := 43) C dX4_isFulfilled_40 (by decide) rfl (fun c7 => ?_) (fun c7 => ?_)
    · replace hf := (if_pos c7).symm.trans hf
      have hr := Option.some.inj hf
      subst hr
      exact U_lv [0, 1, 2, 3, 4, 5] rfl J0
    · replace hf := (if_neg c7).symm.trans hf
      refine U_aload_n (n := 44) 0 C dX4_isFulfilled_43 rfl rfl rfl ?_
      refine U_aload_n (n := 45) 0 C dX4_isFulfilled_44 rfl rfl rfl ?_
      refine gf_RX4_31 (n := 48) C dX4_isFulfilled_45 hf rfl (fun v8 hf => ?_)
      refine U_iload (n := 50) 6 C dX4_isFulfilled_48 rfl rfl ?_
      refine U_iald (n := 51) C dX4_isFulfilled_50 hf rfl (fun v9 hf => ?_)
      refine U_iconst (n := 52) (0 : Int32) C dX4_isFulfilled_51 kiconst_0 rfl ?_
      obtain ⟨v10, ev10, hf⟩ := bsome hf
      refine cv_RX4_106 (n := 55) C dX4_isFulfilled_52 (av := [.int v9, .int (0 : Int32)]) rfl (rc_X4_get ev10) (M_X4_get ev10) (Nat.le_of_ble_eq_true rfl) (Nat.zero_le _) (Nat.zero_le _) (Nat.le_of_ble_eq_true rfl) rfl ?_
      refine U_istore (n := 57) (lv2 := [(7, .int v10), (0, .ref p0), (1, .int p1), (2, .int p2), (3, .int p3), (4, .int p4), (5, .int x5), (6, .int x6)]) C dX4_isFulfilled_55 (by decide) rfl rfl ?_
      refine U_iload (n := 59) 6 C dX4_isFulfilled_57 rfl rfl ?_
      refine U_aload_n (n := 60) 1 C dX4_isFulfilled_59 rfl rfl rfl ?_
      refine gf_RX4_34 (n := 63) C dX4_isFulfilled_60 hf rfl (fun v11 hf => ?_)
      refine U_iload (n := 65) 7 C dX4_isFulfilled_63 rfl rfl ?_
      refine U_iald (n := 66) C dX4_isFulfilled_65 hf rfl (fun v12 hf => ?_)
      refine U_iload (n := 68) 0 C dX4_isFulfilled_66 rfl rfl ?_
      refine U_bipush (n := 70) (-100 : Int32) C dX4_isFulfilled_68 kbipush_m100 rfl ?_
      refine U_join1 (fun v14 => U g Γ 8 Q 0 0 79 [(0, .ref p0), (1, .int p1), (2, .int p2), (3, .int p3), (4, .int p4), (6, .int x6)] [.int v14, .int v12, .int x5] h) hf (fun v14 hf => ?_) (fun v14 hf J16 => ?_)
      · skip
        refine U_imul (n := 80) C dX4_isFulfilled_79 rfl ?_
        refine U_imul (n := 81) C dX4_isFulfilled_80 rfl ?_
        refine U_istore (n := 83) (lv2 := [(5, .int (x5 * (v12 * v14))), (0, .ref p0), (1, .int p1), (2, .int p2), (3, .int p3), (4, .int p4), (6, .int x6)]) C dX4_isFulfilled_81 (by decide) rfl rfl ?_
        refine U_iinc (n := 86) (v := (x6 + 1)) (lv2 := [(6, .int (x6 + 1)), (5, .int (x5 * (v12 * v14))), (0, .ref p0), (1, .int p1), (2, .int p2), (3, .int p3), (4, .int p4)]) 6 C dX4_isFulfilled_83 rfl rfl (by decide) rfl rfl ?_
        refine U_goto (n := 0) (tgt := 32) C dX4_isFulfilled_86 (by decide) ?_
        exact U_lv [2, 3, 4, 5, 6, 1, 0] rfl (ih hf J0)
      · skip
        refine U_icne (tgt := 77) (n := 73) C dX4_isFulfilled_70 (by decide) rfl (fun c13 => ?_) (fun c13 => ?_)
        · replace hf := (if_pos c13).symm.trans hf
          refine U_iload_n (n := 74) 2 C dX4_isFulfilled_73 rfl rfl ?_
          refine U_goto (n := 0) (tgt := 79) C dX4_isFulfilled_74 (by decide) ?_
          have hr := Option.some.inj hf
          subst hr
          exact U_lv [1, 2, 3, 4, 5, 7] rfl J16
        · replace hf := (if_neg c13).symm.trans hf
          refine U_iload (n := 79) 0 C dX4_isFulfilled_77 rfl rfl ?_
          have hr := Option.some.inj hf
          subst hr
          exact U_lv [1, 2, 3, 4, 5, 7] rfl J16
set_option maxHeartbeats 2000000 in
set_option maxRecDepth 20000 in
theorem L_X4_isFulfilled_7 {g : GT} {Γ : CT} {Q : State → Prop} {mc ms : Nat} (C : Cx g Γ cX4_isFulfilled RX4 "isFulfilled" 8 (some .boolean) 7 mc ms) {p0 : Nat} {p1 : Int32} {h : Hp} : ∀ {fuel : Nat} {x2 : Int32} {x3 : Int32} {x4 : Int32} {y2 : Int32} {y3 : Int32}, l_X4_isFulfilled_7 p0 p1 h fuel x2 x3 x4 = some (y2, y3) → U g Γ 8 Q 0 0 125 [(2, .int y2), (3, .int y3)] [] h → U g Γ 8 Q 0 0 7 [(0, .ref p0), (1, .int p1), (2, .int x2), (3, .int x3), (4, .int x4)] [] h := by
  intro fuel
  induction fuel with
  | zero =>
    intro x2 x3 x4 y2 y3 hf J0
    simp only [l_X4_isFulfilled_7, reduceCtorEq] at hf
  | succ fuel ih =>
    intro x2 x3 x4 y2 y3 hf J0
    rw [l_X4_isFulfilled_7] at hf
    refine U_iload (n := 9) 4 C dX4_isFulfilled_7 rfl rfl ?_
    refine U_iconst (n := 10) (3 : Int32) C dX4_isFulfilled_9 kiconst_3 rfl ?_
    refine U_icge (tgt := 125) (n := 13) C dX4_isFulfilled_10 (by decide) rfl (fun c1 => ?_) (fun c1 => ?_)
    · replace hf := (if_pos c1).symm.trans hf
      obtain ⟨hr0, hs0⟩ := Prod.mk.inj (Option.some.inj hf)
      subst hr0
      subst hs0
      exact U_lv [2, 3] rfl J0
    · replace hf := (if_neg c1).symm.trans hf
      refine U_iload (n := 15) 4 C dX4_isFulfilled_13 rfl rfl ?_
      refine U_iconst (n := 16) (1 : Int32) C dX4_isFulfilled_15 kiconst_1 rfl ?_
      refine U_join1 (fun v3 => U g Γ 8 Q 0 0 24 [(0, .ref p0), (1, .int p1), (2, .int x2), (3, .int x3), (4, .int x4)] [.int v3] h) hf (fun v3 hf => ?_) (fun v3 hf J5 => ?_)
      · skip
        refine U_istore (n := 26) (lv2 := [(5, .int v3), (0, .ref p0), (1, .int p1), (2, .int x2), (3, .int x3), (4, .int x4)]) C dX4_isFulfilled_24 (by decide) rfl rfl ?_
        refine U_iconst (n := 27) (2 : Int32) C dX4_isFulfilled_26 kiconst_2 rfl ?_
        refine U_iload (n := 29) 5 C dX4_isFulfilled_27 rfl rfl ?_
        refine U_imul (n := 30) C dX4_isFulfilled_29 rfl ?_
        refine U_istore (n := 32) (lv2 := [(6, .int ((2 : Int32) * x4)), (5, .int v3), (0, .ref p0), (1, .int p1), (2, .int x2), (3, .int x3), (4, .int x4)]) C dX4_isFulfilled_30 (by decide) rfl rfl ?_
        refine U_join1 (fun v18 => U g Γ 8 Q 0 0 89 [(0, .ref p0), (1, .int p1), (2, .int x2), (3, .int x3), (4, .int x4), (5, .int v18)] [] h) hf (fun v18 hf => ?_) (fun v18 hf J => U_lv [2, 3, 4, 5, 6, 1, 0] rfl (L_X4_isFulfilled_32 C hf J))
        refine U_iload_n (n := 90) 2 C dX4_isFulfilled_89 rfl rfl ?_
        refine U_join1 (fun v20 => U g Γ 8 Q 0 0 103 [(0, .ref p0), (1, .int p1), (3, .int x3), (4, .int x4), (5, .int v18)] [.int v20] h) hf (fun v20 hf => ?_) (fun v20 hf J22 => ?_)
        · skip
          refine U_istore_n (n := 104) (lv2 := [(2, .int v20), (0, .ref p0), (1, .int p1), (3, .int x3), (4, .int x4), (5, .int v18)]) C dX4_isFulfilled_103 (by decide) rfl rfl ?_
          refine U_iload_n (n := 105) 3 C dX4_isFulfilled_104 rfl rfl ?_
          refine U_join1 (fun v25 => U g Γ 8 Q 0 0 118 [(0, .ref p0), (1, .int p1), (2, .int v20), (4, .int x4)] [.int v25] h) hf (fun v25 hf => ?_) (fun v25 hf J27 => ?_)
          · skip
            refine U_istore_n (n := 119) (lv2 := [(3, .int v25), (0, .ref p0), (1, .int p1), (2, .int v20), (4, .int x4)]) C dX4_isFulfilled_118 (by decide) rfl rfl ?_
            refine U_iinc (n := 122) (v := (x4 + 1)) (lv2 := [(4, .int (x4 + 1)), (3, .int v25), (0, .ref p0), (1, .int p1), (2, .int v20)]) 4 C dX4_isFulfilled_119 rfl rfl (by decide) rfl rfl ?_
            refine U_goto (n := 0) (tgt := 7) C dX4_isFulfilled_122 (by decide) ?_
            exact U_lv [2, 3, 4, 1, 0] rfl (ih hf J0)
          · skip
            refine U_ifne (tgt := 113) (n := 108) C dX4_isFulfilled_105 (by decide) rfl (fun c24 => ?_) (fun c24 => ?_)
            · replace hf := (if_pos c24).symm.trans hf
              refine U_iload (n := 110) 5 C dX4_isFulfilled_108 rfl rfl ?_
              refine U_ifge (tgt := 117) (n := 113) C dX4_isFulfilled_110 (by decide) rfl (fun c29 => ?_) (fun c29 => ?_)
              · replace hf := (if_pos c29).symm.trans hf
                refine U_iconst (n := 118) (0 : Int32) C dX4_isFulfilled_117 kiconst_0 rfl ?_
                have hr := Option.some.inj hf
                subst hr
                exact U_lv [1, 2, 0, 4] rfl J27
              · replace hf := (if_neg c29).symm.trans hf
                refine U_iconst (n := 114) (1 : Int32) C dX4_isFulfilled_113 kiconst_1 rfl ?_
                refine U_goto (n := 0) (tgt := 118) C dX4_isFulfilled_114 (by decide) ?_
                have hr := Option.some.inj hf
                subst hr
                exact U_lv [1, 2, 0, 4] rfl J27
            · replace hf := (if_neg c24).symm.trans hf
              refine U_iconst (n := 114) (1 : Int32) C dX4_isFulfilled_113 kiconst_1 rfl ?_
              refine U_goto (n := 0) (tgt := 118) C dX4_isFulfilled_114 (by decide) ?_
              have hr := Option.some.inj hf
              subst hr
              exact U_lv [1, 2, 0, 4] rfl J27
        · skip
          refine U_ifne (tgt := 98) (n := 93) C dX4_isFulfilled_90 (by decide) rfl (fun c19 => ?_) (fun c19 => ?_)
          · replace hf := (if_pos c19).symm.trans hf
            refine U_iload (n := 95) 5 C dX4_isFulfilled_93 rfl rfl ?_
            refine U_ifle (tgt := 102) (n := 98) C dX4_isFulfilled_95 (by decide) rfl (fun c30 => ?_) (fun c30 => ?_)
            · replace hf := (if_pos c30).symm.trans hf
              refine U_iconst (n := 103) (0 : Int32) C dX4_isFulfilled_102 kiconst_0 rfl ?_
              have hr := Option.some.inj hf
              subst hr
              exact U_lv [0, 1, 3, 4, 5] rfl J22
            · replace hf := (if_neg c30).symm.trans hf
              refine U_iconst (n := 99) (1 : Int32) C dX4_isFulfilled_98 kiconst_1 rfl ?_
              refine U_goto (n := 0) (tgt := 103) C dX4_isFulfilled_99 (by decide) ?_
              have hr := Option.some.inj hf
              subst hr
              exact U_lv [0, 1, 3, 4, 5] rfl J22
          · replace hf := (if_neg c19).symm.trans hf
            refine U_iconst (n := 99) (1 : Int32) C dX4_isFulfilled_98 kiconst_1 rfl ?_
            refine U_goto (n := 0) (tgt := 103) C dX4_isFulfilled_99 (by decide) ?_
            have hr := Option.some.inj hf
            subst hr
            exact U_lv [0, 1, 3, 4, 5] rfl J22
      · skip
        refine U_icne (tgt := 23) (n := 19) C dX4_isFulfilled_16 (by decide) rfl (fun c2 => ?_) (fun c2 => ?_)
        · replace hf := (if_pos c2).symm.trans hf
          refine U_iconst (n := 20) (-1 : Int32) C dX4_isFulfilled_19 kiconst_m1 rfl ?_
          refine U_goto (n := 0) (tgt := 24) C dX4_isFulfilled_20 (by decide) ?_
          have hr := Option.some.inj hf
          subst hr
          exact U_lv [0, 1, 2, 3, 4] rfl J5
        · replace hf := (if_neg c2).symm.trans hf
          refine U_iconst (n := 24) (1 : Int32) C dX4_isFulfilled_23 kiconst_1 rfl ?_
          have hr := Option.some.inj hf
          subst hr
          exact U_lv [0, 1, 2, 3, 4] rfl J5
theorem rc_X4_isFulfilled {o : Nat} {a1 : Int32} {h : Hp} {z} (hf : f_X4_isFulfilled o a1 h = some z) : rc 4 h o = some () := by
  unfold f_X4_isFulfilled at hf
  exact (bsome hf).choose_spec.1
set_option maxHeartbeats 2000000 in
set_option maxRecDepth 20000 in
theorem M_X4_isFulfilled {g : GT} {o : Nat} {a1 : Int32} {h : Hp} {r : Int32} (hf : f_X4_isFulfilled o a1 h = some r) : CM g yX4_isFulfilled cX4_isFulfilled 8 (some .boolean) 7 0 0 [.ref o, .int a1] h (.inr (some (.int r))) h := by
  refine CM_of rfl (fun _ => Nat.le_of_ble_eq_true rfl) (fun Γ C hn0 => ?_)
  have C : Cx g Γ cX4_isFulfilled RX4 "isFulfilled" 8 (some .boolean) 7 0 0 := C
  generalize hQ : Qe g Γ (.inr (some (.int r))) h 0 0 = Q
  show U g Γ 8 Q 0 0 0 [(0, .ref o), (1, .int a1)] [] h
  unfold f_X4_isFulfilled at hf
  replace hf := (bsome hf).choose_spec.2
  refine U_iconst (n := 1) (0 : Int32) C dX4_isFulfilled_0 kiconst_0 rfl ?_
  refine U_istore_n (n := 2) (lv2 := [(2, .int (0 : Int32)), (0, .ref o), (1, .int a1)]) C dX4_isFulfilled_1 (by decide) rfl rfl ?_
  refine U_iconst (n := 3) (0 : Int32) C dX4_isFulfilled_2 kiconst_0 rfl ?_
  refine U_istore_n (n := 4) (lv2 := [(3, .int (0 : Int32)), (2, .int (0 : Int32)), (0, .ref o), (1, .int a1)]) C dX4_isFulfilled_3 (by decide) rfl rfl ?_
  refine U_iconst (n := 5) (0 : Int32) C dX4_isFulfilled_4 kiconst_0 rfl ?_
  refine U_istore (n := 7) (lv2 := [(4, .int (0 : Int32)), (3, .int (0 : Int32)), (2, .int (0 : Int32)), (0, .ref o), (1, .int a1)]) C dX4_isFulfilled_5 (by decide) rfl rfl ?_
  refine U_join2 (fun v31 v32 => U g Γ 8 Q 0 0 125 [(2, .int v31), (3, .int v32)] [] h) hf (fun v31 v32 hf => ?_) (fun v31 v32 hf J => U_lv [3, 4, 2, 1, 0] rfl (L_X4_isFulfilled_7 C hf J))
  refine U_iload_n (n := 126) 0 C dX4_isFulfilled_125 rfl rfl ?_
  refine U_iload_n (n := 127) 1 C dX4_isFulfilled_126 rfl rfl ?_
  refine U_icne (tgt := 134) (n := 130) C dX4_isFulfilled_127 (by decide) rfl (fun c33 => ?_) (fun c33 => ?_)
  · replace hf := (if_pos c33).symm.trans hf
    refine U_iconst (n := 131) (1 : Int32) C dX4_isFulfilled_130 kiconst_1 rfl ?_
    refine U_goto (n := 0) (tgt := 135) C dX4_isFulfilled_131 (by decide) ?_
    have hr := (Option.some.inj hf)
    subst hr
    subst hQ
    exact U_zret C dX4_isFulfilled_135 (Or.inr rfl) (Nat.le_refl 0) (Nat.le_refl 0)
  · replace hf := (if_neg c33).symm.trans hf
    refine U_iconst (n := 135) (0 : Int32) C dX4_isFulfilled_134 kiconst_0 rfl ?_
    have hr := (Option.some.inj hf)
    subst hr
    subst hQ
    exact U_zret C dX4_isFulfilled_135 (Or.inl rfl) (Nat.le_refl 0) (Nat.le_refl 0)
def l_X4_tries_43 (p0 : Nat) (h : Hp) : Nat → Int32 → Int32 → Int32 → Option (Int32 × Int32)
  | 0, _, _, _ => none
  | fuel + 1, x3, x4, x5 =>
    if (2 : Int32) ≤ x5 then (
      some ((x3, x4))
    ) else (
      bind2 (
        if x5 = 0 then (
          (fR 4 0 h p0).bind fun v15 =>
          (aI h v15 (1 : Int32)).bind fun v16 =>
          if v16 = 0 then (
            (f_X4_isFulfilled p0 x5 h).bind fun v18 =>
            if v18 = 0 then (
              some ((x3, x4))
            ) else (
              some (((x3 + 1), x5))
            )
          ) else (
            some ((x3, x4))
          )
        ) else (
          (f_X4_isFulfilled p0 x5 h).bind fun v20 =>
          if v20 = 0 then (
            some ((x3, x4))
          ) else (
            some (((x3 + 1), x5))
          )
        )
      ) fun v10 v11 =>
      l_X4_tries_43 p0 h fuel v10 v11 (x5 + 1)
    )
def l_X4_tries_103 (p0 : Nat) (p1 : Int32) (p4 : Int32) : Nat → Int32 → Hp → Option Hp
  | 0, _, _ => none
  | fuel + 1, x5, h =>
    if (6 : Int32) ≤ x5 then (
      some h
    ) else (
      (fR 4 13 h p0).bind fun v26 =>
      (aI h v26 x5).bind fun v27 =>
      (f_X4_get p0 v27 (0 : Int32) h).bind fun v28 =>
      (
        if v28 = (-100 : Int32) then (
          (f_X4_puts p0 v27 (0 : Int32) p4 h).bind fun h35 =>
          (f_X4_puts p0 v27 (1 : Int32) (2 : Int32) h35).bind fun h37 =>
          (f_X4_puts p0 v27 (2 : Int32) p1 h37).bind fun h39 =>
          (f_X4_many p0 (2 : Int32) h39).bind fun v40 =>
          (f_X4_puts p0 v27 (3 : Int32) v40 h39).bind fun h42 =>
          some h42
        ) else (
          some h
        )
      ).bind fun h30 =>
      l_X4_tries_103 p0 p1 p4 fuel (x5 + 1) h30
    )
def f_X4_tries (o : Nat) (a1 : Int32) (h : Hp) : Option (Int32 × Hp) :=
  (rc 4 h o).bind fun _ =>
  (f_X4_looksAt o a1 h).bind fun h2 =>
  (f_X4_unknowns o h2).bind fun v3 =>
  if v3 = 0 then (
    (f_X4_isFulfilled o (0 : Int32) h2).bind fun v5 =>
    if v5 = 0 then (
      some (((-1 : Int32), h2))
    ) else (
      some (((0 : Int32), h2))
    )
  ) else (
    if v3 ≤ (1 : Int32) then (
      bind2 (l_X4_tries_43 o h2 FU (0 : Int32) (0 : Int32) (-1 : Int32)) fun v22 v23 =>
      if v22 = (1 : Int32) then (
        (l_X4_tries_103 o a1 v23 FU (0 : Int32) h2).bind fun h43 =>
        some (((1 : Int32), h43))
      ) else (
        if v22 = 0 then (
          some (((-1 : Int32), h2))
        ) else (
          some (((0 : Int32), h2))
        )
      )
    ) else (
      some (((0 : Int32), h2))
    )
  )
set_option maxHeartbeats 2000000 in
set_option maxRecDepth 20000 in
theorem L_X4_tries_43 {g : GT} {Γ : CT} {Q : State → Prop} {mc ms : Nat} (C : Cx g Γ cX4_tries RX4 "tries" 7 (some .int) 9 mc ms) {p0 : Nat} {p1 : Int32} {h : Hp} : ∀ {fuel : Nat} {x3 : Int32} {x4 : Int32} {x5 : Int32} {y3 : Int32} {y4 : Int32}, l_X4_tries_43 p0 h fuel x3 x4 x5 = some (y3, y4) → U g Γ 7 Q 0 0 85 [(0, .ref p0), (1, .int p1), (3, .int y3), (4, .int y4)] [] h → U g Γ 7 Q 0 0 43 [(0, .ref p0), (1, .int p1), (3, .int x3), (4, .int x4), (5, .int x5)] [] h := by
  intro fuel
  induction fuel with
  | zero =>
    intro x3 x4 x5 y3 y4 hf J0
    simp only [l_X4_tries_43, reduceCtorEq] at hf
  | succ fuel ih =>
    intro x3 x4 x5 y3 y4 hf J0
    rw [l_X4_tries_43] at hf
    refine U_iload (n := 45) 4 C dX4_tries_43 rfl rfl ?_
    refine U_iconst (n := 46) (2 : Int32) C dX4_tries_45 kiconst_2 rfl ?_
    refine U_icge (tgt := 85) (n := 49) C dX4_tries_46 (by decide) rfl (fun c8 => ?_) (fun c8 => ?_)
    · replace hf := (if_pos c8).symm.trans hf
      obtain ⟨hr0, hs0⟩ := Prod.mk.inj (Option.some.inj hf)
      subst hr0
      subst hs0
      exact U_lv [0, 1, 2, 3] rfl J0
    · replace hf := (if_neg c8).symm.trans hf
      refine U_iload (n := 51) 4 C dX4_tries_49 rfl rfl ?_
      refine U_join2 (fun v10 v11 => U g Γ 7 Q 0 0 79 [(0, .ref p0), (1, .int p1), (3, .int v10), (4, .int v11), (5, .int x5)] [] h) hf (fun v10 v11 hf => ?_) (fun v10 v11 hf J13 => ?_)
      · skip
        refine U_iinc (n := 82) (v := (x5 + 1)) (lv2 := [(5, .int (x5 + 1)), (0, .ref p0), (1, .int p1), (3, .int v10), (4, .int v11)]) 4 C dX4_tries_79 rfl rfl (by decide) rfl rfl ?_
        refine U_goto (n := 0) (tgt := 43) C dX4_tries_82 (by decide) ?_
        exact U_lv [1, 2, 3, 4, 0] rfl (ih hf J0)
      · skip
        refine U_ifne (tgt := 63) (n := 54) C dX4_tries_51 (by decide) rfl (fun c9 => ?_) (fun c9 => ?_)
        · replace hf := (if_pos c9).symm.trans hf
          refine U_aload_n (n := 55) 0 C dX4_tries_54 rfl rfl rfl ?_
          refine gf_RX4_7 (n := 58) C dX4_tries_55 hf rfl (fun v15 hf => ?_)
          refine U_iconst (n := 59) (1 : Int32) C dX4_tries_58 kiconst_1 rfl ?_
          refine U_iald (n := 60) C dX4_tries_59 hf rfl (fun v16 hf => ?_)
          refine U_ifne (tgt := 79) (n := 63) C dX4_tries_60 (by decide) rfl (fun c17 => ?_) (fun c17 => ?_)
          · replace hf := (if_pos c17).symm.trans hf
            refine U_aload_n (n := 64) 0 C dX4_tries_63 rfl rfl rfl ?_
            refine U_iload (n := 66) 4 C dX4_tries_64 rfl rfl ?_
            obtain ⟨v18, ev18, hf⟩ := bsome hf
            refine cv_RX4_158 (n := 69) C dX4_tries_66 (av := [.int x5]) rfl (rc_X4_isFulfilled ev18) (M_X4_isFulfilled ev18) (Nat.le_of_ble_eq_true rfl) (Nat.zero_le _) (Nat.zero_le _) (Nat.le_of_ble_eq_true rfl) rfl ?_
            refine U_ifeq (tgt := 79) (n := 72) C dX4_tries_69 (by decide) rfl (fun c19 => ?_) (fun c19 => ?_)
            · replace hf := (if_pos c19).symm.trans hf
              obtain ⟨hr0, hs0⟩ := Prod.mk.inj (Option.some.inj hf)
              subst hr0
              subst hs0
              exact U_lv [0, 1, 2, 3, 4] rfl J13
            · replace hf := (if_neg c19).symm.trans hf
              refine U_iinc (n := 75) (v := (x3 + 1)) (lv2 := [(3, .int (x3 + 1)), (0, .ref p0), (1, .int p1), (4, .int x4), (5, .int x5)]) 2 C dX4_tries_72 rfl rfl (by decide) rfl rfl ?_
              refine U_iload (n := 77) 4 C dX4_tries_75 rfl rfl ?_
              refine U_istore (n := 79) (lv2 := [(4, .int x5), (3, .int (x3 + 1)), (0, .ref p0), (1, .int p1), (5, .int x5)]) C dX4_tries_77 (by decide) rfl rfl ?_
              obtain ⟨hr0, hs0⟩ := Prod.mk.inj (Option.some.inj hf)
              subst hr0
              subst hs0
              exact U_lv [2, 3, 1, 0, 4] rfl J13
          · replace hf := (if_neg c17).symm.trans hf
            obtain ⟨hr0, hs0⟩ := Prod.mk.inj (Option.some.inj hf)
            subst hr0
            subst hs0
            exact U_lv [0, 1, 2, 3, 4] rfl J13
        · replace hf := (if_neg c9).symm.trans hf
          refine U_aload_n (n := 64) 0 C dX4_tries_63 rfl rfl rfl ?_
          refine U_iload (n := 66) 4 C dX4_tries_64 rfl rfl ?_
          obtain ⟨v20, ev20, hf⟩ := bsome hf
          refine cv_RX4_158 (n := 69) C dX4_tries_66 (av := [.int x5]) rfl (rc_X4_isFulfilled ev20) (M_X4_isFulfilled ev20) (Nat.le_of_ble_eq_true rfl) (Nat.zero_le _) (Nat.zero_le _) (Nat.le_of_ble_eq_true rfl) rfl ?_
          refine U_ifeq (tgt := 79) (n := 72) C dX4_tries_69 (by decide) rfl (fun c21 => ?_) (fun c21 => ?_)
          · replace hf := (if_pos c21).symm.trans hf
            obtain ⟨hr0, hs0⟩ := Prod.mk.inj (Option.some.inj hf)
            subst hr0
            subst hs0
            exact U_lv [0, 1, 2, 3, 4] rfl J13
          · replace hf := (if_neg c21).symm.trans hf
            refine U_iinc (n := 75) (v := (x3 + 1)) (lv2 := [(3, .int (x3 + 1)), (0, .ref p0), (1, .int p1), (4, .int x4), (5, .int x5)]) 2 C dX4_tries_72 rfl rfl (by decide) rfl rfl ?_
            refine U_iload (n := 77) 4 C dX4_tries_75 rfl rfl ?_
            refine U_istore (n := 79) (lv2 := [(4, .int x5), (3, .int (x3 + 1)), (0, .ref p0), (1, .int p1), (5, .int x5)]) C dX4_tries_77 (by decide) rfl rfl ?_
            obtain ⟨hr0, hs0⟩ := Prod.mk.inj (Option.some.inj hf)
            subst hr0
            subst hs0
            exact U_lv [2, 3, 1, 0, 4] rfl J13
set_option maxHeartbeats 2000000 in
set_option maxRecDepth 20000 in
theorem L_X4_tries_103 {g : GT} {Γ : CT} {Q : State → Prop} {mc ms : Nat} (C : Cx g Γ cX4_tries RX4 "tries" 7 (some .int) 9 mc ms) {p0 : Nat} {p1 : Int32} {p4 : Int32} : ∀ {fuel : Nat} {x5 : Int32} {h : Hp} {hy : Hp}, l_X4_tries_103 p0 p1 p4 fuel x5 h = some hy → U g Γ 7 Q 0 0 174 [] [] hy → U g Γ 7 Q 0 0 103 [(0, .ref p0), (1, .int p1), (4, .int p4), (5, .int x5)] [] h := by
  intro fuel
  induction fuel with
  | zero =>
    intro x5 h hy hf J0
    simp only [l_X4_tries_103, reduceCtorEq] at hf
  | succ fuel ih =>
    intro x5 h hy hf J0
    rw [l_X4_tries_103] at hf
    refine U_iload (n := 105) 3 C dX4_tries_103 rfl rfl ?_
    refine U_bipush (n := 107) (6 : Int32) C dX4_tries_105 kbipush_6 rfl ?_
    refine U_icge (tgt := 174) (n := 110) C dX4_tries_107 (by decide) rfl (fun c25 => ?_) (fun c25 => ?_)
    · replace hf := (if_pos c25).symm.trans hf
      have hr := Option.some.inj hf
      subst hr
      exact U_lv [] rfl J0
    · replace hf := (if_neg c25).symm.trans hf
      refine U_aload_n (n := 111) 0 C dX4_tries_110 rfl rfl rfl ?_
      refine gf_RX4_31 (n := 114) C dX4_tries_111 hf rfl (fun v26 hf => ?_)
      refine U_iload (n := 116) 3 C dX4_tries_114 rfl rfl ?_
      refine U_iald (n := 117) C dX4_tries_116 hf rfl (fun v27 hf => ?_)
      refine U_istore (n := 119) (lv2 := [(6, .int v27), (0, .ref p0), (1, .int p1), (4, .int p4), (5, .int x5)]) C dX4_tries_117 (by decide) rfl rfl ?_
      refine U_aload_n (n := 120) 1 C dX4_tries_119 rfl rfl rfl ?_
      refine U_iload (n := 122) 0 C dX4_tries_120 rfl rfl ?_
      refine U_iconst (n := 123) (0 : Int32) C dX4_tries_122 kiconst_0 rfl ?_
      obtain ⟨v28, ev28, hf⟩ := bsome hf
      refine cv_RX4_106 (n := 126) C dX4_tries_123 (av := [.int v27, .int (0 : Int32)]) rfl (rc_X4_get ev28) (M_X4_get ev28) (Nat.le_of_ble_eq_true rfl) (Nat.zero_le _) (Nat.zero_le _) (Nat.le_of_ble_eq_true rfl) rfl ?_
      refine U_bipush (n := 128) (-100 : Int32) C dX4_tries_126 kbipush_m100 rfl ?_
      refine U_join1 (fun h30 => U g Γ 7 Q 0 0 168 [(0, .ref p0), (1, .int p1), (4, .int p4), (5, .int x5)] [] h30) hf (fun h30 hf => ?_) (fun h30 hf J32 => ?_)
      · skip
        refine U_iinc (n := 171) (v := (x5 + 1)) (lv2 := [(5, .int (x5 + 1)), (0, .ref p0), (1, .int p1), (4, .int p4)]) 3 C dX4_tries_168 rfl rfl (by decide) rfl rfl ?_
        refine U_goto (n := 0) (tgt := 103) C dX4_tries_171 (by decide) ?_
        exact U_lv [1, 2, 3, 0] rfl (ih hf J0)
      · skip
        refine U_icne (tgt := 168) (n := 131) C dX4_tries_128 (by decide) rfl (fun c29 => ?_) (fun c29 => ?_)
        · replace hf := (if_pos c29).symm.trans hf
          refine U_aload_n (n := 132) 1 C dX4_tries_131 rfl rfl rfl ?_
          refine U_iload (n := 134) 0 C dX4_tries_132 rfl rfl ?_
          refine U_iconst (n := 135) (0 : Int32) C dX4_tries_134 kiconst_0 rfl ?_
          refine U_iload (n := 137) 3 C dX4_tries_135 rfl rfl ?_
          obtain ⟨h35, ev34, hf⟩ := bsome hf
          refine cv_RX4_87 (n := 140) C dX4_tries_137 (av := [.int v27, .int (0 : Int32), .int p4]) rfl (rc_X4_puts ev34) (M_X4_puts ev34) (Nat.le_of_ble_eq_true rfl) (Nat.zero_le _) (Nat.zero_le _) (Nat.le_of_ble_eq_true rfl) rfl ?_
          refine U_aload_n (n := 141) 1 C dX4_tries_140 rfl rfl rfl ?_
          refine U_iload (n := 143) 0 C dX4_tries_141 rfl rfl ?_
          refine U_iconst (n := 144) (1 : Int32) C dX4_tries_143 kiconst_1 rfl ?_
          refine U_iconst (n := 145) (2 : Int32) C dX4_tries_144 kiconst_2 rfl ?_
          obtain ⟨h37, ev36, hf⟩ := bsome hf
          refine cv_RX4_87 (n := 148) C dX4_tries_145 (av := [.int v27, .int (1 : Int32), .int (2 : Int32)]) rfl (rc_X4_puts ev36) (M_X4_puts ev36) (Nat.le_of_ble_eq_true rfl) (Nat.zero_le _) (Nat.zero_le _) (Nat.le_of_ble_eq_true rfl) rfl ?_
          refine U_aload_n (n := 149) 1 C dX4_tries_148 rfl rfl rfl ?_
          refine U_iload (n := 151) 0 C dX4_tries_149 rfl rfl ?_
          refine U_iconst (n := 152) (2 : Int32) C dX4_tries_151 kiconst_2 rfl ?_
          refine U_iload_n (n := 153) 2 C dX4_tries_152 rfl rfl ?_
          obtain ⟨h39, ev38, hf⟩ := bsome hf
          refine cv_RX4_87 (n := 156) C dX4_tries_153 (av := [.int v27, .int (2 : Int32), .int p1]) rfl (rc_X4_puts ev38) (M_X4_puts ev38) (Nat.le_of_ble_eq_true rfl) (Nat.zero_le _) (Nat.zero_le _) (Nat.le_of_ble_eq_true rfl) rfl ?_
          refine U_aload_n (n := 157) 1 C dX4_tries_156 rfl rfl rfl ?_
          refine U_iload (n := 159) 0 C dX4_tries_157 rfl rfl ?_
          refine U_iconst (n := 160) (3 : Int32) C dX4_tries_159 kiconst_3 rfl ?_
          refine U_aload_n (n := 161) 1 C dX4_tries_160 rfl rfl rfl ?_
          refine U_iconst (n := 162) (2 : Int32) C dX4_tries_161 kiconst_2 rfl ?_
          obtain ⟨v40, ev40, hf⟩ := bsome hf
          refine cv_RX4_161 (n := 165) C dX4_tries_162 (av := [.int (2 : Int32)]) rfl (rc_X4_many ev40) (M_X4_many ev40) (Nat.le_of_ble_eq_true rfl) (Nat.zero_le _) (Nat.zero_le _) (Nat.le_of_ble_eq_true rfl) rfl ?_
          obtain ⟨h42, ev41, hf⟩ := bsome hf
          refine cv_RX4_87 (n := 168) C dX4_tries_165 (av := [.int v27, .int (3 : Int32), .int v40]) rfl (rc_X4_puts ev41) (M_X4_puts ev41) (Nat.le_of_ble_eq_true rfl) (Nat.zero_le _) (Nat.zero_le _) (Nat.le_of_ble_eq_true rfl) rfl ?_
          have hr := Option.some.inj hf
          subst hr
          exact U_lv [1, 2, 3, 4] rfl J32
        · replace hf := (if_neg c29).symm.trans hf
          have hr := Option.some.inj hf
          subst hr
          exact U_lv [1, 2, 3, 4] rfl J32
theorem rc_X4_tries {o : Nat} {a1 : Int32} {h : Hp} {z} (hf : f_X4_tries o a1 h = some z) : rc 4 h o = some () := by
  unfold f_X4_tries at hf
  exact (bsome hf).choose_spec.1
set_option maxHeartbeats 2000000 in
set_option maxRecDepth 20000 in
theorem M_X4_tries {g : GT} {o : Nat} {a1 : Int32} {h : Hp} {r : Int32} {h2 : Hp} (hf : f_X4_tries o a1 h = some (r, h2)) : CM g yX4_tries cX4_tries 7 (some .int) 9 0 0 [.ref o, .int a1] h (.inr (some (.int r))) h2 := by
  refine CM_of rfl (fun _ => Nat.le_of_ble_eq_true rfl) (fun Γ C hn0 => ?_)
  have C : Cx g Γ cX4_tries RX4 "tries" 7 (some .int) 9 0 0 := C
  generalize hQ : Qe g Γ (.inr (some (.int r))) h2 0 0 = Q
  show U g Γ 7 Q 0 0 0 [(0, .ref o), (1, .int a1)] [] h
  unfold f_X4_tries at hf
  replace hf := (bsome hf).choose_spec.2
  refine U_aload_n (n := 1) 0 C dX4_tries_0 rfl rfl rfl ?_
  refine U_iload_n (n := 2) 1 C dX4_tries_1 rfl rfl ?_
  obtain ⟨h2, ev1, hf⟩ := bsome hf
  refine cv_RX4_152 (n := 5) C dX4_tries_2 (av := [.int a1]) rfl (rc_X4_looksAt ev1) (M_X4_looksAt ev1) (Nat.le_of_ble_eq_true rfl) (Nat.zero_le _) (Nat.zero_le _) (Nat.le_of_ble_eq_true rfl) rfl ?_
  refine U_aload_n (n := 6) 0 C dX4_tries_5 rfl rfl rfl ?_
  obtain ⟨v3, ev3, hf⟩ := bsome hf
  refine cv_RX4_155 (n := 9) C dX4_tries_6 (av := []) rfl (rc_X4_unknowns ev3) (M_X4_unknowns ev3) (Nat.le_of_ble_eq_true rfl) (Nat.zero_le _) (Nat.zero_le _) (Nat.le_of_ble_eq_true rfl) rfl ?_
  refine U_istore_n (n := 10) (lv2 := [(2, .int v3), (0, .ref o), (1, .int a1)]) C dX4_tries_9 (by decide) rfl rfl ?_
  refine U_iload_n (n := 11) 0 C dX4_tries_10 rfl rfl ?_
  refine U_ifne (tgt := 28) (n := 14) C dX4_tries_11 (by decide) rfl (fun c4 => ?_) (fun c4 => ?_)
  · replace hf := (if_pos c4).symm.trans hf
    refine U_aload_n (n := 15) 1 C dX4_tries_14 rfl rfl rfl ?_
    refine U_iconst (n := 16) (0 : Int32) C dX4_tries_15 kiconst_0 rfl ?_
    obtain ⟨v5, ev5, hf⟩ := bsome hf
    refine cv_RX4_158 (n := 19) C dX4_tries_16 (av := [.int (0 : Int32)]) rfl (rc_X4_isFulfilled ev5) (M_X4_isFulfilled ev5) (Nat.le_of_ble_eq_true rfl) (Nat.zero_le _) (Nat.zero_le _) (Nat.le_of_ble_eq_true rfl) rfl ?_
    refine U_ifeq (tgt := 26) (n := 22) C dX4_tries_19 (by decide) rfl (fun c6 => ?_) (fun c6 => ?_)
    · replace hf := (if_pos c6).symm.trans hf
      refine U_iconst (n := 27) (-1 : Int32) C dX4_tries_26 kiconst_m1 rfl ?_
      obtain ⟨hr1, hr2⟩ := Prod.mk.inj (Option.some.inj hf)
      subst hr1; subst hr2
      subst hQ
      exact U_iret C dX4_tries_27 (Nat.le_refl 0) (Nat.le_refl 0)
    · replace hf := (if_neg c6).symm.trans hf
      refine U_iconst (n := 23) (0 : Int32) C dX4_tries_22 kiconst_0 rfl ?_
      refine U_goto (n := 0) (tgt := 27) C dX4_tries_23 (by decide) ?_
      obtain ⟨hr1, hr2⟩ := Prod.mk.inj (Option.some.inj hf)
      subst hr1; subst hr2
      subst hQ
      exact U_iret C dX4_tries_27 (Nat.le_refl 0) (Nat.le_refl 0)
  · replace hf := (if_neg c4).symm.trans hf
    refine U_iload_n (n := 29) 0 C dX4_tries_28 rfl rfl ?_
    refine U_iconst (n := 30) (1 : Int32) C dX4_tries_29 kiconst_1 rfl ?_
    refine U_icle (tgt := 35) (n := 33) C dX4_tries_30 (by decide) rfl (fun c7 => ?_) (fun c7 => ?_)
    · replace hf := (if_pos c7).symm.trans hf
      refine U_iconst (n := 36) (0 : Int32) C dX4_tries_35 kiconst_0 rfl ?_
      refine U_istore_n (n := 37) (lv2 := [(3, .int (0 : Int32)), (2, .int v3), (0, .ref o), (1, .int a1)]) C dX4_tries_36 (by decide) rfl rfl ?_
      refine U_iconst (n := 38) (0 : Int32) C dX4_tries_37 kiconst_0 rfl ?_
      refine U_istore (n := 40) (lv2 := [(4, .int (0 : Int32)), (3, .int (0 : Int32)), (2, .int v3), (0, .ref o), (1, .int a1)]) C dX4_tries_38 (by decide) rfl rfl ?_
      refine U_iconst (n := 41) (-1 : Int32) C dX4_tries_40 kiconst_m1 rfl ?_
      refine U_istore (n := 43) (lv2 := [(5, .int (-1 : Int32)), (4, .int (0 : Int32)), (3, .int (0 : Int32)), (2, .int v3), (0, .ref o), (1, .int a1)]) C dX4_tries_41 (by decide) rfl rfl ?_
      refine U_join2 (fun v22 v23 => U g Γ 7 Q 0 0 85 [(0, .ref o), (1, .int a1), (3, .int v22), (4, .int v23)] [] h2) hf (fun v22 v23 hf => ?_) (fun v22 v23 hf J => U_lv [4, 5, 2, 1, 0] rfl (L_X4_tries_43 C hf J))
      refine U_iload_n (n := 86) 2 C dX4_tries_85 rfl rfl ?_
      refine U_iconst (n := 87) (1 : Int32) C dX4_tries_86 kiconst_1 rfl ?_
      refine U_iceq (tgt := 100) (n := 90) C dX4_tries_87 (by decide) rfl (fun c24 => ?_) (fun c24 => ?_)
      · replace hf := (if_pos c24).symm.trans hf
        refine U_iconst (n := 101) (0 : Int32) C dX4_tries_100 kiconst_0 rfl ?_
        refine U_istore (n := 103) (lv2 := [(5, .int (0 : Int32)), (0, .ref o), (1, .int a1), (3, .int v22), (4, .int v23)]) C dX4_tries_101 (by decide) rfl rfl ?_
        refine U_join1 (fun h43 => U g Γ 7 Q 0 0 174 [] [] h43) hf (fun h43 hf => ?_) (fun h43 hf J => U_lv [1, 2, 4, 0] rfl (L_X4_tries_103 C hf J))
        refine U_iconst (n := 175) (1 : Int32) C dX4_tries_174 kiconst_1 rfl ?_
        obtain ⟨hr1, hr2⟩ := Prod.mk.inj (Option.some.inj hf)
        subst hr1; subst hr2
        subst hQ
        exact U_iret C dX4_tries_175 (Nat.le_refl 0) (Nat.le_refl 0)
      · replace hf := (if_neg c24).symm.trans hf
        refine U_iload_n (n := 91) 2 C dX4_tries_90 rfl rfl ?_
        refine U_ifne (tgt := 98) (n := 94) C dX4_tries_91 (by decide) rfl (fun c44 => ?_) (fun c44 => ?_)
        · replace hf := (if_pos c44).symm.trans hf
          refine U_iconst (n := 95) (-1 : Int32) C dX4_tries_94 kiconst_m1 rfl ?_
          refine U_goto (n := 0) (tgt := 99) C dX4_tries_95 (by decide) ?_
          obtain ⟨hr1, hr2⟩ := Prod.mk.inj (Option.some.inj hf)
          subst hr1; subst hr2
          subst hQ
          exact U_iret C dX4_tries_99 (Nat.le_refl 0) (Nat.le_refl 0)
        · replace hf := (if_neg c44).symm.trans hf
          refine U_iconst (n := 99) (0 : Int32) C dX4_tries_98 kiconst_0 rfl ?_
          obtain ⟨hr1, hr2⟩ := Prod.mk.inj (Option.some.inj hf)
          subst hr1; subst hr2
          subst hQ
          exact U_iret C dX4_tries_99 (Nat.le_refl 0) (Nat.le_refl 0)
    · replace hf := (if_neg c7).symm.trans hf
      refine U_iconst (n := 34) (0 : Int32) C dX4_tries_33 kiconst_0 rfl ?_
      obtain ⟨hr1, hr2⟩ := Prod.mk.inj (Option.some.inj hf)
      subst hr1; subst hr2
      subst hQ
      exact U_iret C dX4_tries_34 (Nat.le_refl 0) (Nat.le_refl 0)
def l_X4_derives_24 (p0 : Nat) : Nat → Int32 → Int32 → Hp → Option (Int32 × Hp)
  | 0, _, _, _ => none
  | fuel + 1, x2, x3, h =>
    (fI 4 11 h p0).bind fun v5 =>
    if v5 ≤ x3 then (
      some ((x2, h))
    ) else (
      (fR 4 0 h p0).bind fun v7 =>
      (aI h v7 (2 : Int32)).bind fun v8 =>
      if v8 = (-100 : Int32) then (
        bind2 (f_X4_tries p0 x3 h) fun v10 h11 =>
        (
          if x2 = 0 then (
            if v10 = (1 : Int32) then (
              some ((1 : Int32))
            ) else (
              some ((0 : Int32))
            )
          ) else (
            some ((1 : Int32))
          )
        ).bind fun v13 =>
        (fR 4 0 h11 p0).bind fun v17 =>
        (
          if 0 ≤ v10 then (
            some ((-100 : Int32))
          ) else (
            some x3
          )
        ).bind fun v19 =>
        (wI h11 v17 (2 : Int32) v19).bind fun h23 =>
        l_X4_derives_24 p0 fuel v13 (x3 + 1) h23
      ) else (
        some ((x2, h))
      )
    )
def l_X4_derives_16 (p0 : Nat) : Nat → Int32 → Hp → Option Hp
  | 0, _, _ => none
  | fuel + 1, x2, h =>
    if x2 = 0 then (
      some h
    ) else (
      bind2 (l_X4_derives_24 p0 FU (0 : Int32) (0 : Int32) h) fun v25 h26 =>
      (
        if v25 = 0 then (
          some ((0 : Int32))
        ) else (
          (fR 4 0 h26 p0).bind fun v32 =>
          (aI h26 v32 (2 : Int32)).bind fun v33 =>
          if v33 = (-100 : Int32) then (
            some ((1 : Int32))
          ) else (
            some ((0 : Int32))
          )
        )
      ).bind fun v28 =>
      l_X4_derives_16 p0 fuel v28 h26
    )
def f_X4_derives (o : Nat) (h : Hp) : Option (Int32 × Hp) :=
  (rc 4 h o).bind fun _ =>
  (fR 4 0 h o).bind fun v1 =>
  (wI h v1 (2 : Int32) (-100 : Int32)).bind fun h2 =>
  (f_X4_many o (2 : Int32) h2).bind fun v3 =>
  (l_X4_derives_16 o FU (1 : Int32) h2).bind fun h35 =>
  (f_X4_many o (2 : Int32) h35).bind fun v36 =>
  some (((v36 - v3), h35))
set_option maxHeartbeats 2000000 in
set_option maxRecDepth 20000 in
theorem L_X4_derives_24 {g : GT} {Γ : CT} {Q : State → Prop} {mc ms : Nat} (C : Cx g Γ cX4_derives RX4 "derives" 5 (some .int) 10 mc ms) {p0 : Nat} {p1 : Int32} : ∀ {fuel : Nat} {x2 : Int32} {x3 : Int32} {h : Hp} {y2 : Int32} {hy : Hp}, l_X4_derives_24 p0 fuel x2 x3 h = some (y2, hy) → U g Γ 5 Q 0 0 89 [(0, .ref p0), (1, .int p1), (2, .int y2)] [] hy → U g Γ 5 Q 0 0 24 [(0, .ref p0), (1, .int p1), (2, .int x2), (3, .int x3)] [] h := by
  intro fuel
  induction fuel with
  | zero =>
    intro x2 x3 h y2 hy hf J0
    simp only [l_X4_derives_24, reduceCtorEq] at hf
  | succ fuel ih =>
    intro x2 x3 h y2 hy hf J0
    rw [l_X4_derives_24] at hf
    refine U_iload_n (n := 25) 3 C dX4_derives_24 rfl rfl ?_
    refine U_aload_n (n := 26) 0 C dX4_derives_25 rfl rfl rfl ?_
    refine gf_RX4_74 (n := 29) C dX4_derives_26 hf rfl (fun v5 hf => ?_)
    refine U_icge (tgt := 89) (n := 32) C dX4_derives_29 (by decide) rfl (fun c6 => ?_) (fun c6 => ?_)
    · replace hf := (if_pos c6).symm.trans hf
      obtain ⟨hr0, hs0⟩ := Prod.mk.inj (Option.some.inj hf)
      subst hr0
      subst hs0
      exact U_lv [0, 1, 2] rfl J0
    · replace hf := (if_neg c6).symm.trans hf
      refine U_aload_n (n := 33) 0 C dX4_derives_32 rfl rfl rfl ?_
      refine gf_RX4_7 (n := 36) C dX4_derives_33 hf rfl (fun v7 hf => ?_)
      refine U_iconst (n := 37) (2 : Int32) C dX4_derives_36 kiconst_2 rfl ?_
      refine U_iald (n := 38) C dX4_derives_37 hf rfl (fun v8 hf => ?_)
      refine U_bipush (n := 40) (-100 : Int32) C dX4_derives_38 kbipush_m100 rfl ?_
      refine U_icne (tgt := 89) (n := 43) C dX4_derives_40 (by decide) rfl (fun c9 => ?_) (fun c9 => ?_)
      · replace hf := (if_pos c9).symm.trans hf
        refine U_aload_n (n := 44) 0 C dX4_derives_43 rfl rfl rfl ?_
        refine U_iload_n (n := 45) 3 C dX4_derives_44 rfl rfl ?_
        obtain ⟨v10, h11, ev10, hf⟩ := bsome2 hf
        refine cv_RX4_164 (n := 48) C dX4_derives_45 (av := [.int x3]) rfl (rc_X4_tries ev10) (M_X4_tries ev10) (Nat.le_of_ble_eq_true rfl) (Nat.zero_le _) (Nat.zero_le _) (Nat.le_of_ble_eq_true rfl) rfl ?_
        refine U_istore (n := 50) (lv2 := [(4, .int v10), (0, .ref p0), (1, .int p1), (2, .int x2), (3, .int x3)]) C dX4_derives_48 (by decide) rfl rfl ?_
        refine U_iload_n (n := 51) 3 C dX4_derives_50 rfl rfl ?_
        refine U_join1 (fun v13 => U g Γ 5 Q 0 0 65 [(0, .ref p0), (1, .int p1), (3, .int x3), (4, .int v10)] [.int v13] h11) hf (fun v13 hf => ?_) (fun v13 hf J15 => ?_)
        · skip
          refine U_istore_n (n := 66) (lv2 := [(2, .int v13), (0, .ref p0), (1, .int p1), (3, .int x3), (4, .int v10)]) C dX4_derives_65 (by decide) rfl rfl ?_
          refine U_aload_n (n := 67) 1 C dX4_derives_66 rfl rfl rfl ?_
          refine gf_RX4_7 (n := 70) C dX4_derives_67 hf rfl (fun v17 hf => ?_)
          refine U_iconst (n := 71) (2 : Int32) C dX4_derives_70 kiconst_2 rfl ?_
          refine U_iload (n := 73) 4 C dX4_derives_71 rfl rfl ?_
          refine U_join1 (fun v19 => U g Γ 5 Q 0 0 82 [(0, .ref p0), (1, .int p1), (2, .int v13), (3, .int x3)] [.int v19, .int (2 : Int32), .ref v17] h11) hf (fun v19 hf => ?_) (fun v19 hf J21 => ?_)
          · skip
            refine U_iast (n := 83) C dX4_derives_82 hf rfl (fun h23 hf => ?_)
            refine U_iinc (n := 86) (v := (x3 + 1)) (lv2 := [(3, .int (x3 + 1)), (0, .ref p0), (1, .int p1), (2, .int v13)]) 3 C dX4_derives_83 rfl rfl (by decide) rfl rfl ?_
            refine U_goto (n := 0) (tgt := 24) C dX4_derives_86 (by decide) ?_
            exact U_lv [1, 2, 3, 0] rfl (ih hf J0)
          · skip
            refine U_ifge (tgt := 80) (n := 76) C dX4_derives_73 (by decide) rfl (fun c18 => ?_) (fun c18 => ?_)
            · replace hf := (if_pos c18).symm.trans hf
              refine U_bipush (n := 82) (-100 : Int32) C dX4_derives_80 kbipush_m100 rfl ?_
              have hr := Option.some.inj hf
              subst hr
              exact U_lv [1, 2, 0, 3] rfl J21
            · replace hf := (if_neg c18).symm.trans hf
              refine U_iload_n (n := 77) 3 C dX4_derives_76 rfl rfl ?_
              refine U_goto (n := 0) (tgt := 82) C dX4_derives_77 (by decide) ?_
              have hr := Option.some.inj hf
              subst hr
              exact U_lv [1, 2, 0, 3] rfl J21
        · skip
          refine U_ifne (tgt := 60) (n := 54) C dX4_derives_51 (by decide) rfl (fun c12 => ?_) (fun c12 => ?_)
          · replace hf := (if_pos c12).symm.trans hf
            refine U_iload (n := 56) 0 C dX4_derives_54 rfl rfl ?_
            refine U_iconst (n := 57) (1 : Int32) C dX4_derives_56 kiconst_1 rfl ?_
            refine U_icne (tgt := 64) (n := 60) C dX4_derives_57 (by decide) rfl (fun c24 => ?_) (fun c24 => ?_)
            · replace hf := (if_pos c24).symm.trans hf
              refine U_iconst (n := 61) (1 : Int32) C dX4_derives_60 kiconst_1 rfl ?_
              refine U_goto (n := 0) (tgt := 65) C dX4_derives_61 (by decide) ?_
              have hr := Option.some.inj hf
              subst hr
              exact U_lv [1, 2, 4, 0] rfl J15
            · replace hf := (if_neg c24).symm.trans hf
              refine U_iconst (n := 65) (0 : Int32) C dX4_derives_64 kiconst_0 rfl ?_
              have hr := Option.some.inj hf
              subst hr
              exact U_lv [1, 2, 4, 0] rfl J15
          · replace hf := (if_neg c12).symm.trans hf
            refine U_iconst (n := 61) (1 : Int32) C dX4_derives_60 kiconst_1 rfl ?_
            refine U_goto (n := 0) (tgt := 65) C dX4_derives_61 (by decide) ?_
            have hr := Option.some.inj hf
            subst hr
            exact U_lv [1, 2, 4, 0] rfl J15
      · replace hf := (if_neg c9).symm.trans hf
        obtain ⟨hr0, hs0⟩ := Prod.mk.inj (Option.some.inj hf)
        subst hr0
        subst hs0
        exact U_lv [0, 1, 2] rfl J0
set_option maxHeartbeats 2000000 in
set_option maxRecDepth 20000 in
theorem L_X4_derives_16 {g : GT} {Γ : CT} {Q : State → Prop} {mc ms : Nat} (C : Cx g Γ cX4_derives RX4 "derives" 5 (some .int) 10 mc ms) {p0 : Nat} {p1 : Int32} : ∀ {fuel : Nat} {x2 : Int32} {h : Hp} {hy : Hp}, l_X4_derives_16 p0 fuel x2 h = some hy → U g Γ 5 Q 0 0 113 [(0, .ref p0), (1, .int p1)] [] hy → U g Γ 5 Q 0 0 16 [(0, .ref p0), (1, .int p1), (2, .int x2)] [] h := by
  intro fuel
  induction fuel with
  | zero =>
    intro x2 h hy hf J0
    simp only [l_X4_derives_16, reduceCtorEq] at hf
  | succ fuel ih =>
    intro x2 h hy hf J0
    rw [l_X4_derives_16] at hf
    refine U_iload_n (n := 17) 2 C dX4_derives_16 rfl rfl ?_
    refine U_ifeq (tgt := 113) (n := 20) C dX4_derives_17 (by decide) rfl (fun c4 => ?_) (fun c4 => ?_)
    · replace hf := (if_pos c4).symm.trans hf
      have hr := Option.some.inj hf
      subst hr
      exact U_lv [0, 1] rfl J0
    · replace hf := (if_neg c4).symm.trans hf
      refine U_iconst (n := 21) (0 : Int32) C dX4_derives_20 kiconst_0 rfl ?_
      refine U_istore_n (n := 22) (lv2 := [(2, .int (0 : Int32)), (0, .ref p0), (1, .int p1)]) C dX4_derives_21 (by decide) rfl rfl ?_
      refine U_iconst (n := 23) (0 : Int32) C dX4_derives_22 kiconst_0 rfl ?_
      refine U_istore_n (n := 24) (lv2 := [(3, .int (0 : Int32)), (2, .int (0 : Int32)), (0, .ref p0), (1, .int p1)]) C dX4_derives_23 (by decide) rfl rfl ?_
      refine U_join2 (fun v25 h26 => U g Γ 5 Q 0 0 89 [(0, .ref p0), (1, .int p1), (2, .int v25)] [] h26) hf (fun v25 h26 hf => ?_) (fun v25 h26 hf J => U_lv [2, 3, 1, 0] rfl (L_X4_derives_24 C hf J))
      refine U_iload_n (n := 90) 2 C dX4_derives_89 rfl rfl ?_
      refine U_join1 (fun v28 => U g Γ 5 Q 0 0 109 [(0, .ref p0), (1, .int p1)] [.int v28] h26) hf (fun v28 hf => ?_) (fun v28 hf J30 => ?_)
      · skip
        refine U_istore_n (n := 110) (lv2 := [(2, .int v28), (0, .ref p0), (1, .int p1)]) C dX4_derives_109 (by decide) rfl rfl ?_
        refine U_goto (n := 0) (tgt := 16) C dX4_derives_110 (by decide) ?_
        exact U_lv [1, 2, 0] rfl (ih hf J0)
      · skip
        refine U_ifeq (tgt := 108) (n := 93) C dX4_derives_90 (by decide) rfl (fun c27 => ?_) (fun c27 => ?_)
        · replace hf := (if_pos c27).symm.trans hf
          refine U_iconst (n := 109) (0 : Int32) C dX4_derives_108 kiconst_0 rfl ?_
          have hr := Option.some.inj hf
          subst hr
          exact U_lv [0, 1] rfl J30
        · replace hf := (if_neg c27).symm.trans hf
          refine U_aload_n (n := 94) 0 C dX4_derives_93 rfl rfl rfl ?_
          refine gf_RX4_7 (n := 97) C dX4_derives_94 hf rfl (fun v32 hf => ?_)
          refine U_iconst (n := 98) (2 : Int32) C dX4_derives_97 kiconst_2 rfl ?_
          refine U_iald (n := 99) C dX4_derives_98 hf rfl (fun v33 hf => ?_)
          refine U_bipush (n := 101) (-100 : Int32) C dX4_derives_99 kbipush_m100 rfl ?_
          refine U_icne (tgt := 108) (n := 104) C dX4_derives_101 (by decide) rfl (fun c34 => ?_) (fun c34 => ?_)
          · replace hf := (if_pos c34).symm.trans hf
            refine U_iconst (n := 105) (1 : Int32) C dX4_derives_104 kiconst_1 rfl ?_
            refine U_goto (n := 0) (tgt := 109) C dX4_derives_105 (by decide) ?_
            have hr := Option.some.inj hf
            subst hr
            exact U_lv [0, 1] rfl J30
          · replace hf := (if_neg c34).symm.trans hf
            refine U_iconst (n := 109) (0 : Int32) C dX4_derives_108 kiconst_0 rfl ?_
            have hr := Option.some.inj hf
            subst hr
            exact U_lv [0, 1] rfl J30
theorem rc_X4_derives {o : Nat} {h : Hp} {z} (hf : f_X4_derives o h = some z) : rc 4 h o = some () := by
  unfold f_X4_derives at hf
  exact (bsome hf).choose_spec.1
set_option maxHeartbeats 2000000 in
set_option maxRecDepth 20000 in
theorem M_X4_derives {g : GT} {o : Nat} {h : Hp} {r : Int32} {h2 : Hp} (hf : f_X4_derives o h = some (r, h2)) : CM g yX4_derives cX4_derives 5 (some .int) 10 0 0 [.ref o] h (.inr (some (.int r))) h2 := by
  refine CM_of rfl (fun _ => Nat.le_of_ble_eq_true rfl) (fun Γ C hn0 => ?_)
  have C : Cx g Γ cX4_derives RX4 "derives" 5 (some .int) 10 0 0 := C
  generalize hQ : Qe g Γ (.inr (some (.int r))) h2 0 0 = Q
  show U g Γ 5 Q 0 0 0 [(0, .ref o)] [] h
  unfold f_X4_derives at hf
  replace hf := (bsome hf).choose_spec.2
  refine U_aload_n (n := 1) 0 C dX4_derives_0 rfl rfl rfl ?_
  refine gf_RX4_7 (n := 4) C dX4_derives_1 hf rfl (fun v1 hf => ?_)
  refine U_iconst (n := 5) (2 : Int32) C dX4_derives_4 kiconst_2 rfl ?_
  refine U_bipush (n := 7) (-100 : Int32) C dX4_derives_5 kbipush_m100 rfl ?_
  refine U_iast (n := 8) C dX4_derives_7 hf rfl (fun h2 hf => ?_)
  refine U_aload_n (n := 9) 0 C dX4_derives_8 rfl rfl rfl ?_
  refine U_iconst (n := 10) (2 : Int32) C dX4_derives_9 kiconst_2 rfl ?_
  obtain ⟨v3, ev3, hf⟩ := bsome hf
  refine cv_RX4_161 (n := 13) C dX4_derives_10 (av := [.int (2 : Int32)]) rfl (rc_X4_many ev3) (M_X4_many ev3) (Nat.le_of_ble_eq_true rfl) (Nat.zero_le _) (Nat.zero_le _) (Nat.le_of_ble_eq_true rfl) rfl ?_
  refine U_istore_n (n := 14) (lv2 := [(1, .int v3), (0, .ref o)]) C dX4_derives_13 (by decide) rfl rfl ?_
  refine U_iconst (n := 15) (1 : Int32) C dX4_derives_14 kiconst_1 rfl ?_
  refine U_istore_n (n := 16) (lv2 := [(2, .int (1 : Int32)), (1, .int v3), (0, .ref o)]) C dX4_derives_15 (by decide) rfl rfl ?_
  refine U_join1 (fun h35 => U g Γ 5 Q 0 0 113 [(0, .ref o), (1, .int v3)] [] h35) hf (fun h35 hf => ?_) (fun h35 hf J => U_lv [2, 1, 0] rfl (L_X4_derives_16 C hf J))
  refine U_aload_n (n := 114) 0 C dX4_derives_113 rfl rfl rfl ?_
  refine U_iconst (n := 115) (2 : Int32) C dX4_derives_114 kiconst_2 rfl ?_
  obtain ⟨v36, ev36, hf⟩ := bsome hf
  refine cv_RX4_161 (n := 118) C dX4_derives_115 (av := [.int (2 : Int32)]) rfl (rc_X4_many ev36) (M_X4_many ev36) (Nat.le_of_ble_eq_true rfl) (Nat.zero_le _) (Nat.zero_le _) (Nat.le_of_ble_eq_true rfl) rfl ?_
  refine U_iload_n (n := 119) 1 C dX4_derives_118 rfl rfl ?_
  refine U_isub (n := 120) C dX4_derives_119 rfl ?_
  obtain ⟨hr1, hr2⟩ := Prod.mk.inj (Option.some.inj hf)
  subst hr1; subst hr2
  subst hQ
  exact U_iret C dX4_derives_120 (Nat.le_refl 0) (Nat.le_refl 0)
def f_X4_derive (o : Nat) (h : Hp) : Option (Int32 × Hp) :=
  (rc 4 h o).bind fun _ =>
  (f_X4_hold o h).bind fun h2 =>
  bind2 (f_X4_derives o h2) fun v3 h4 =>
  bind2 (f_X4_ends o v3 h4) fun v5 h6 =>
  some ((v5, h6))
theorem rc_X4_derive {o : Nat} {h : Hp} {z} (hf : f_X4_derive o h = some z) : rc 4 h o = some () := by
  unfold f_X4_derive at hf
  exact (bsome hf).choose_spec.1
set_option maxHeartbeats 2000000 in
set_option maxRecDepth 20000 in
theorem M_X4_derive {g : GT} {o : Nat} {h : Hp} {r : Int32} {h2 : Hp} (hf : f_X4_derive o h = some (r, h2)) : CM g yX4_derive cX4_derive 1 (some .int) 11 0 0 [.ref o] h (.inr (some (.int r))) h2 := by
  refine CM_of rfl (fun _ => Nat.le_of_ble_eq_true rfl) (fun Γ C hn0 => ?_)
  have C : Cx g Γ cX4_derive RX4 "derive" 1 (some .int) 11 0 0 := C
  generalize hQ : Qe g Γ (.inr (some (.int r))) h2 0 0 = Q
  show U g Γ 1 Q 0 0 0 [(0, .ref o)] [] h
  unfold f_X4_derive at hf
  replace hf := (bsome hf).choose_spec.2
  refine U_aload_n (n := 1) 0 C dX4_derive_0 rfl rfl rfl ?_
  obtain ⟨h2, ev1, hf⟩ := bsome hf
  refine cv_RX4_116 (n := 4) C dX4_derive_1 (av := []) rfl (rc_X4_hold ev1) (M_X4_hold ev1) (Nat.le_of_ble_eq_true rfl) (Nat.zero_le _) (Nat.zero_le _) (Nat.le_of_ble_eq_true rfl) rfl ?_
  refine U_aload_n (n := 5) 0 C dX4_derive_4 rfl rfl rfl ?_
  refine U_aload_n (n := 6) 0 C dX4_derive_5 rfl rfl rfl ?_
  obtain ⟨v3, h4, ev3, hf⟩ := bsome2 hf
  refine cv_RX4_167 (n := 9) C dX4_derive_6 (av := []) rfl (rc_X4_derives ev3) (M_X4_derives ev3) (Nat.le_of_ble_eq_true rfl) (Nat.zero_le _) (Nat.zero_le _) (Nat.le_of_ble_eq_true rfl) rfl ?_
  obtain ⟨v5, h6, ev5, hf⟩ := bsome2 hf
  refine cv_RX4_119 (n := 12) C dX4_derive_9 (av := [.int v3]) rfl (rc_X4_ends ev5) (M_X4_ends ev5) (Nat.le_of_ble_eq_true rfl) (Nat.zero_le _) (Nat.zero_le _) (Nat.le_of_ble_eq_true rfl) rfl ?_
  obtain ⟨hr1, hr2⟩ := Prod.mk.inj (Option.some.inj hf)
  subst hr1; subst hr2
  subst hQ
  exact U_iret C dX4_derive_12 (Nat.le_refl 0) (Nat.le_refl 0)
def f_X4_forget (o : Nat) (h : Hp) : Option (Int32 × Hp) :=
  (rc 4 h o).bind fun _ =>
  (f_X4_hold o h).bind fun h2 =>
  bind2 (f_X4_forgets o h2) fun v3 h4 =>
  bind2 (f_X4_ends o v3 h4) fun v5 h6 =>
  some ((v5, h6))
theorem rc_X4_forget {o : Nat} {h : Hp} {z} (hf : f_X4_forget o h = some z) : rc 4 h o = some () := by
  unfold f_X4_forget at hf
  exact (bsome hf).choose_spec.1
set_option maxHeartbeats 2000000 in
set_option maxRecDepth 20000 in
theorem M_X4_forget {g : GT} {o : Nat} {h : Hp} {r : Int32} {h2 : Hp} (hf : f_X4_forget o h = some (r, h2)) : CM g yX4_forget cX4_forget 1 (some .int) 9 0 0 [.ref o] h (.inr (some (.int r))) h2 := by
  refine CM_of rfl (fun _ => Nat.le_of_ble_eq_true rfl) (fun Γ C hn0 => ?_)
  have C : Cx g Γ cX4_forget RX4 "forget" 1 (some .int) 9 0 0 := C
  generalize hQ : Qe g Γ (.inr (some (.int r))) h2 0 0 = Q
  show U g Γ 1 Q 0 0 0 [(0, .ref o)] [] h
  unfold f_X4_forget at hf
  replace hf := (bsome hf).choose_spec.2
  refine U_aload_n (n := 1) 0 C dX4_forget_0 rfl rfl rfl ?_
  obtain ⟨h2, ev1, hf⟩ := bsome hf
  refine cv_RX4_116 (n := 4) C dX4_forget_1 (av := []) rfl (rc_X4_hold ev1) (M_X4_hold ev1) (Nat.le_of_ble_eq_true rfl) (Nat.zero_le _) (Nat.zero_le _) (Nat.le_of_ble_eq_true rfl) rfl ?_
  refine U_aload_n (n := 5) 0 C dX4_forget_4 rfl rfl rfl ?_
  refine U_aload_n (n := 6) 0 C dX4_forget_5 rfl rfl rfl ?_
  obtain ⟨v3, h4, ev3, hf⟩ := bsome2 hf
  refine cv_RX4_122 (n := 9) C dX4_forget_6 (av := []) rfl (rc_X4_forgets ev3) (M_X4_forgets ev3) (Nat.le_of_ble_eq_true rfl) (Nat.zero_le _) (Nat.zero_le _) (Nat.le_of_ble_eq_true rfl) rfl ?_
  obtain ⟨v5, h6, ev5, hf⟩ := bsome2 hf
  refine cv_RX4_119 (n := 12) C dX4_forget_9 (av := [.int v3]) rfl (rc_X4_ends ev5) (M_X4_ends ev5) (Nat.le_of_ble_eq_true rfl) (Nat.zero_le _) (Nat.zero_le _) (Nat.le_of_ble_eq_true rfl) rfl ?_
  obtain ⟨hr1, hr2⟩ := Prod.mk.inj (Option.some.inj hf)
  subst hr1; subst hr2
  subst hQ
  exact U_iret C dX4_forget_12 (Nat.le_refl 0) (Nat.le_refl 0)
def l_X4_flips_4 (p0 : Nat) (p1 : Int32) : Nat → Int32 → Int32 → Hp → Option (Int32 × Hp)
  | 0, _, _, _ => none
  | fuel + 1, x2, x3, h =>
    (fI 4 9 h p0).bind fun v1 =>
    if v1 ≤ x3 then (
      some ((x2, h))
    ) else (
      (
        if p1 = (-100 : Int32) then (
          some ((1 : Int32))
        ) else (
          (fR 4 7 h p0).bind fun v19 =>
          (aI h v19 ((3 : Int32) * x3)).bind fun v20 =>
          if v20 = p1 then (
            some ((1 : Int32))
          ) else (
            (fR 4 7 h p0).bind fun v22 =>
            (aI h v22 (((3 : Int32) * x3) + (1 : Int32))).bind fun v23 =>
            if v23 = p1 then (
              some ((1 : Int32))
            ) else (
              (fR 4 7 h p0).bind fun v25 =>
              (aI h v25 (((3 : Int32) * x3) + (2 : Int32))).bind fun v26 =>
              if v26 = p1 then (
                some ((1 : Int32))
              ) else (
                some ((0 : Int32))
              )
            )
          )
        )
      ).bind fun v4 =>
      bind2 (
        if v4 = 0 then (
          some ((x2, h))
        ) else (
          (f_X4_get p0 x3 (0 : Int32) h).bind fun v14 =>
          if v14 = (-100 : Int32) then (
            some ((x2, h))
          ) else (
            (f_X4_get p0 x3 (0 : Int32) h).bind fun v16 =>
            (f_X4_puts p0 x3 (0 : Int32) (-v16) h).bind fun h18 =>
            some (((x2 + 1), h18))
          )
        )
      ) fun v9 h10 =>
      l_X4_flips_4 p0 p1 fuel v9 (x3 + 1) h10
    )
def f_X4_flips (o : Nat) (a1 : Int32) (h : Hp) : Option (Int32 × Hp) :=
  (rc 4 h o).bind fun _ =>
  bind2 (l_X4_flips_4 o a1 FU (0 : Int32) (0 : Int32) h) fun v28 h29 =>
  some ((v28, h29))
set_option maxHeartbeats 2000000 in
set_option maxRecDepth 20000 in
theorem L_X4_flips_4 {g : GT} {Γ : CT} {Q : State → Prop} {mc ms : Nat} (C : Cx g Γ cX4_flips RX4 "flips" 5 (some .int) 7 mc ms) {p0 : Nat} {p1 : Int32} : ∀ {fuel : Nat} {x2 : Int32} {x3 : Int32} {h : Hp} {y2 : Int32} {hy : Hp}, l_X4_flips_4 p0 p1 fuel x2 x3 h = some (y2, hy) → U g Γ 5 Q 0 0 103 [(2, .int y2)] [] hy → U g Γ 5 Q 0 0 4 [(0, .ref p0), (1, .int p1), (2, .int x2), (3, .int x3)] [] h := by
  intro fuel
  induction fuel with
  | zero =>
    intro x2 x3 h y2 hy hf J0
    simp only [l_X4_flips_4, reduceCtorEq] at hf
  | succ fuel ih =>
    intro x2 x3 h y2 hy hf J0
    rw [l_X4_flips_4] at hf
    refine U_iload_n (n := 5) 3 C dX4_flips_4 rfl rfl ?_
    refine U_aload_n (n := 6) 0 C dX4_flips_5 rfl rfl rfl ?_
    refine gf_RX4_71 (n := 9) C dX4_flips_6 hf rfl (fun v1 hf => ?_)
    refine U_icge (tgt := 103) (n := 12) C dX4_flips_9 (by decide) rfl (fun c2 => ?_) (fun c2 => ?_)
    · replace hf := (if_pos c2).symm.trans hf
      obtain ⟨hr0, hs0⟩ := Prod.mk.inj (Option.some.inj hf)
      subst hr0
      subst hs0
      exact U_lv [2] rfl J0
    · replace hf := (if_neg c2).symm.trans hf
      refine U_iload_n (n := 13) 1 C dX4_flips_12 rfl rfl ?_
      refine U_bipush (n := 15) (-100 : Int32) C dX4_flips_13 kbipush_m100 rfl ?_
      refine U_join1 (fun v4 => U g Γ 5 Q 0 0 63 [(0, .ref p0), (1, .int p1), (2, .int x2), (3, .int x3)] [.int v4] h) hf (fun v4 hf => ?_) (fun v4 hf J6 => ?_)
      · skip
        refine U_istore (n := 65) (lv2 := [(4, .int v4), (0, .ref p0), (1, .int p1), (2, .int x2), (3, .int x3)]) C dX4_flips_63 (by decide) rfl rfl ?_
        refine U_iload (n := 67) 0 C dX4_flips_65 rfl rfl ?_
        refine U_join2 (fun v9 h10 => U g Γ 5 Q 0 0 97 [(0, .ref p0), (1, .int p1), (2, .int v9), (3, .int x3)] [] h10) hf (fun v9 h10 hf => ?_) (fun v9 h10 hf J12 => ?_)
        · skip
          refine U_iinc (n := 100) (v := (x3 + 1)) (lv2 := [(3, .int (x3 + 1)), (0, .ref p0), (1, .int p1), (2, .int v9)]) 3 C dX4_flips_97 rfl rfl (by decide) rfl rfl ?_
          refine U_goto (n := 0) (tgt := 4) C dX4_flips_100 (by decide) ?_
          exact U_lv [1, 2, 3, 0] rfl (ih hf J0)
        · skip
          refine U_ifeq (tgt := 97) (n := 70) C dX4_flips_67 (by decide) rfl (fun c8 => ?_) (fun c8 => ?_)
          · replace hf := (if_pos c8).symm.trans hf
            obtain ⟨hr0, hs0⟩ := Prod.mk.inj (Option.some.inj hf)
            subst hr0
            subst hs0
            exact U_lv [1, 2, 3, 4] rfl J12
          · replace hf := (if_neg c8).symm.trans hf
            refine U_aload_n (n := 71) 1 C dX4_flips_70 rfl rfl rfl ?_
            refine U_iload_n (n := 72) 4 C dX4_flips_71 rfl rfl ?_
            refine U_iconst (n := 73) (0 : Int32) C dX4_flips_72 kiconst_0 rfl ?_
            obtain ⟨v14, ev14, hf⟩ := bsome hf
            refine cv_RX4_106 (n := 76) C dX4_flips_73 (av := [.int x3, .int (0 : Int32)]) rfl (rc_X4_get ev14) (M_X4_get ev14) (Nat.le_of_ble_eq_true rfl) (Nat.zero_le _) (Nat.zero_le _) (Nat.le_of_ble_eq_true rfl) rfl ?_
            refine U_bipush (n := 78) (-100 : Int32) C dX4_flips_76 kbipush_m100 rfl ?_
            refine U_iceq (tgt := 97) (n := 81) C dX4_flips_78 (by decide) rfl (fun c15 => ?_) (fun c15 => ?_)
            · replace hf := (if_pos c15).symm.trans hf
              obtain ⟨hr0, hs0⟩ := Prod.mk.inj (Option.some.inj hf)
              subst hr0
              subst hs0
              exact U_lv [1, 2, 3, 4] rfl J12
            · replace hf := (if_neg c15).symm.trans hf
              refine U_aload_n (n := 82) 1 C dX4_flips_81 rfl rfl rfl ?_
              refine U_iload_n (n := 83) 4 C dX4_flips_82 rfl rfl ?_
              refine U_iconst (n := 84) (0 : Int32) C dX4_flips_83 kiconst_0 rfl ?_
              refine U_aload_n (n := 85) 1 C dX4_flips_84 rfl rfl rfl ?_
              refine U_iload_n (n := 86) 4 C dX4_flips_85 rfl rfl ?_
              refine U_iconst (n := 87) (0 : Int32) C dX4_flips_86 kiconst_0 rfl ?_
              obtain ⟨v16, ev16, hf⟩ := bsome hf
              refine cv_RX4_106 (n := 90) C dX4_flips_87 (av := [.int x3, .int (0 : Int32)]) rfl (rc_X4_get ev16) (M_X4_get ev16) (Nat.le_of_ble_eq_true rfl) (Nat.zero_le _) (Nat.zero_le _) (Nat.le_of_ble_eq_true rfl) rfl ?_
              refine U_ineg (n := 91) C dX4_flips_90 rfl ?_
              obtain ⟨h18, ev17, hf⟩ := bsome hf
              refine cv_RX4_87 (n := 94) C dX4_flips_91 (av := [.int x3, .int (0 : Int32), .int (-v16)]) rfl (rc_X4_puts ev17) (M_X4_puts ev17) (Nat.le_of_ble_eq_true rfl) (Nat.zero_le _) (Nat.zero_le _) (Nat.le_of_ble_eq_true rfl) rfl ?_
              refine U_iinc (n := 97) (v := (x2 + 1)) (lv2 := [(2, .int (x2 + 1)), (4, .int v4), (0, .ref p0), (1, .int p1), (3, .int x3)]) 3 C dX4_flips_94 rfl rfl (by decide) rfl rfl ?_
              obtain ⟨hr0, hs0⟩ := Prod.mk.inj (Option.some.inj hf)
              subst hr0
              subst hs0
              exact U_lv [2, 3, 0, 4] rfl J12
      · skip
        refine U_iceq (tgt := 58) (n := 18) C dX4_flips_15 (by decide) rfl (fun c3 => ?_) (fun c3 => ?_)
        · replace hf := (if_pos c3).symm.trans hf
          refine U_iconst (n := 59) (1 : Int32) C dX4_flips_58 kiconst_1 rfl ?_
          refine U_goto (n := 0) (tgt := 63) C dX4_flips_59 (by decide) ?_
          have hr := Option.some.inj hf
          subst hr
          exact U_lv [0, 1, 2, 3] rfl J6
        · replace hf := (if_neg c3).symm.trans hf
          refine U_aload_n (n := 19) 0 C dX4_flips_18 rfl rfl rfl ?_
          refine gf_RX4_22 (n := 22) C dX4_flips_19 hf rfl (fun v19 hf => ?_)
          refine U_iconst (n := 23) (3 : Int32) C dX4_flips_22 kiconst_3 rfl ?_
          refine U_iload_n (n := 24) 3 C dX4_flips_23 rfl rfl ?_
          refine U_imul (n := 25) C dX4_flips_24 rfl ?_
          refine U_iald (n := 26) C dX4_flips_25 hf rfl (fun v20 hf => ?_)
          refine U_iload_n (n := 27) 1 C dX4_flips_26 rfl rfl ?_
          refine U_iceq (tgt := 58) (n := 30) C dX4_flips_27 (by decide) rfl (fun c21 => ?_) (fun c21 => ?_)
          · replace hf := (if_pos c21).symm.trans hf
            refine U_iconst (n := 59) (1 : Int32) C dX4_flips_58 kiconst_1 rfl ?_
            refine U_goto (n := 0) (tgt := 63) C dX4_flips_59 (by decide) ?_
            have hr := Option.some.inj hf
            subst hr
            exact U_lv [0, 1, 2, 3] rfl J6
          · replace hf := (if_neg c21).symm.trans hf
            refine U_aload_n (n := 31) 0 C dX4_flips_30 rfl rfl rfl ?_
            refine gf_RX4_22 (n := 34) C dX4_flips_31 hf rfl (fun v22 hf => ?_)
            refine U_iconst (n := 35) (3 : Int32) C dX4_flips_34 kiconst_3 rfl ?_
            refine U_iload_n (n := 36) 3 C dX4_flips_35 rfl rfl ?_
            refine U_imul (n := 37) C dX4_flips_36 rfl ?_
            refine U_iconst (n := 38) (1 : Int32) C dX4_flips_37 kiconst_1 rfl ?_
            refine U_iadd (n := 39) C dX4_flips_38 rfl ?_
            refine U_iald (n := 40) C dX4_flips_39 hf rfl (fun v23 hf => ?_)
            refine U_iload_n (n := 41) 1 C dX4_flips_40 rfl rfl ?_
            refine U_iceq (tgt := 58) (n := 44) C dX4_flips_41 (by decide) rfl (fun c24 => ?_) (fun c24 => ?_)
            · replace hf := (if_pos c24).symm.trans hf
              refine U_iconst (n := 59) (1 : Int32) C dX4_flips_58 kiconst_1 rfl ?_
              refine U_goto (n := 0) (tgt := 63) C dX4_flips_59 (by decide) ?_
              have hr := Option.some.inj hf
              subst hr
              exact U_lv [0, 1, 2, 3] rfl J6
            · replace hf := (if_neg c24).symm.trans hf
              refine U_aload_n (n := 45) 0 C dX4_flips_44 rfl rfl rfl ?_
              refine gf_RX4_22 (n := 48) C dX4_flips_45 hf rfl (fun v25 hf => ?_)
              refine U_iconst (n := 49) (3 : Int32) C dX4_flips_48 kiconst_3 rfl ?_
              refine U_iload_n (n := 50) 3 C dX4_flips_49 rfl rfl ?_
              refine U_imul (n := 51) C dX4_flips_50 rfl ?_
              refine U_iconst (n := 52) (2 : Int32) C dX4_flips_51 kiconst_2 rfl ?_
              refine U_iadd (n := 53) C dX4_flips_52 rfl ?_
              refine U_iald (n := 54) C dX4_flips_53 hf rfl (fun v26 hf => ?_)
              refine U_iload_n (n := 55) 1 C dX4_flips_54 rfl rfl ?_
              refine U_icne (tgt := 62) (n := 58) C dX4_flips_55 (by decide) rfl (fun c27 => ?_) (fun c27 => ?_)
              · replace hf := (if_pos c27).symm.trans hf
                refine U_iconst (n := 59) (1 : Int32) C dX4_flips_58 kiconst_1 rfl ?_
                refine U_goto (n := 0) (tgt := 63) C dX4_flips_59 (by decide) ?_
                have hr := Option.some.inj hf
                subst hr
                exact U_lv [0, 1, 2, 3] rfl J6
              · replace hf := (if_neg c27).symm.trans hf
                refine U_iconst (n := 63) (0 : Int32) C dX4_flips_62 kiconst_0 rfl ?_
                have hr := Option.some.inj hf
                subst hr
                exact U_lv [0, 1, 2, 3] rfl J6
theorem rc_X4_flips {o : Nat} {a1 : Int32} {h : Hp} {z} (hf : f_X4_flips o a1 h = some z) : rc 4 h o = some () := by
  unfold f_X4_flips at hf
  exact (bsome hf).choose_spec.1
set_option maxHeartbeats 2000000 in
set_option maxRecDepth 20000 in
theorem M_X4_flips {g : GT} {o : Nat} {a1 : Int32} {h : Hp} {r : Int32} {h2 : Hp} (hf : f_X4_flips o a1 h = some (r, h2)) : CM g yX4_flips cX4_flips 5 (some .int) 7 0 0 [.ref o, .int a1] h (.inr (some (.int r))) h2 := by
  refine CM_of rfl (fun _ => Nat.le_of_ble_eq_true rfl) (fun Γ C hn0 => ?_)
  have C : Cx g Γ cX4_flips RX4 "flips" 5 (some .int) 7 0 0 := C
  generalize hQ : Qe g Γ (.inr (some (.int r))) h2 0 0 = Q
  show U g Γ 5 Q 0 0 0 [(0, .ref o), (1, .int a1)] [] h
  unfold f_X4_flips at hf
  replace hf := (bsome hf).choose_spec.2
  refine U_iconst (n := 1) (0 : Int32) C dX4_flips_0 kiconst_0 rfl ?_
  refine U_istore_n (n := 2) (lv2 := [(2, .int (0 : Int32)), (0, .ref o), (1, .int a1)]) C dX4_flips_1 (by decide) rfl rfl ?_
  refine U_iconst (n := 3) (0 : Int32) C dX4_flips_2 kiconst_0 rfl ?_
  refine U_istore_n (n := 4) (lv2 := [(3, .int (0 : Int32)), (2, .int (0 : Int32)), (0, .ref o), (1, .int a1)]) C dX4_flips_3 (by decide) rfl rfl ?_
  refine U_join2 (fun v28 h29 => U g Γ 5 Q 0 0 103 [(2, .int v28)] [] h29) hf (fun v28 h29 hf => ?_) (fun v28 h29 hf J => U_lv [2, 3, 1, 0] rfl (L_X4_flips_4 C hf J))
  refine U_iload_n (n := 104) 0 C dX4_flips_103 rfl rfl ?_
  obtain ⟨hr1, hr2⟩ := Prod.mk.inj (Option.some.inj hf)
  subst hr1; subst hr2
  subst hQ
  exact U_iret C dX4_flips_104 (Nat.le_refl 0) (Nat.le_refl 0)
def f_X4_mirror (o : Nat) (h : Hp) : Option (Int32 × Hp) :=
  (rc 4 h o).bind fun _ =>
  (f_X4_hold o h).bind fun h2 =>
  bind2 (f_X4_flips o (-100 : Int32) h2) fun v3 h4 =>
  bind2 (f_X4_ends o v3 h4) fun v5 h6 =>
  some ((v5, h6))
theorem rc_X4_mirror {o : Nat} {h : Hp} {z} (hf : f_X4_mirror o h = some z) : rc 4 h o = some () := by
  unfold f_X4_mirror at hf
  exact (bsome hf).choose_spec.1
set_option maxHeartbeats 2000000 in
set_option maxRecDepth 20000 in
theorem M_X4_mirror {g : GT} {o : Nat} {h : Hp} {r : Int32} {h2 : Hp} (hf : f_X4_mirror o h = some (r, h2)) : CM g yX4_mirror cX4_mirror 1 (some .int) 8 0 0 [.ref o] h (.inr (some (.int r))) h2 := by
  refine CM_of rfl (fun _ => Nat.le_of_ble_eq_true rfl) (fun Γ C hn0 => ?_)
  have C : Cx g Γ cX4_mirror RX4 "mirror" 1 (some .int) 8 0 0 := C
  generalize hQ : Qe g Γ (.inr (some (.int r))) h2 0 0 = Q
  show U g Γ 1 Q 0 0 0 [(0, .ref o)] [] h
  unfold f_X4_mirror at hf
  replace hf := (bsome hf).choose_spec.2
  refine U_aload_n (n := 1) 0 C dX4_mirror_0 rfl rfl rfl ?_
  obtain ⟨h2, ev1, hf⟩ := bsome hf
  refine cv_RX4_116 (n := 4) C dX4_mirror_1 (av := []) rfl (rc_X4_hold ev1) (M_X4_hold ev1) (Nat.le_of_ble_eq_true rfl) (Nat.zero_le _) (Nat.zero_le _) (Nat.le_of_ble_eq_true rfl) rfl ?_
  refine U_aload_n (n := 5) 0 C dX4_mirror_4 rfl rfl rfl ?_
  refine U_aload_n (n := 6) 0 C dX4_mirror_5 rfl rfl rfl ?_
  refine U_bipush (n := 8) (-100 : Int32) C dX4_mirror_6 kbipush_m100 rfl ?_
  obtain ⟨v3, h4, ev3, hf⟩ := bsome2 hf
  refine cv_RX4_170 (n := 11) C dX4_mirror_8 (av := [.int (-100 : Int32)]) rfl (rc_X4_flips ev3) (M_X4_flips ev3) (Nat.le_of_ble_eq_true rfl) (Nat.zero_le _) (Nat.zero_le _) (Nat.le_of_ble_eq_true rfl) rfl ?_
  obtain ⟨v5, h6, ev5, hf⟩ := bsome2 hf
  refine cv_RX4_119 (n := 14) C dX4_mirror_11 (av := [.int v3]) rfl (rc_X4_ends ev5) (M_X4_ends ev5) (Nat.le_of_ble_eq_true rfl) (Nat.zero_le _) (Nat.zero_le _) (Nat.le_of_ble_eq_true rfl) rfl ?_
  obtain ⟨hr1, hr2⟩ := Prod.mk.inj (Option.some.inj hf)
  subst hr1; subst hr2
  subst hQ
  exact U_iret C dX4_mirror_14 (Nat.le_refl 0) (Nat.le_refl 0)
def f_X4_turn (o : Nat) (a1 : Int32) (h : Hp) : Option (Int32 × Hp) :=
  (rc 4 h o).bind fun _ =>
  (f_X4_isPoint o a1 h).bind fun v1 =>
  if v1 = 0 then (
    bind2 (f_X4_fails o (1 : Int32) h) fun v3 h4 =>
    some ((v3, h4))
  ) else (
    (f_X4_hold o h).bind fun h6 =>
    bind2 (f_X4_flips o a1 h6) fun v7 h8 =>
    bind2 (f_X4_ends o v7 h8) fun v9 h10 =>
    some ((v9, h10))
  )
theorem rc_X4_turn {o : Nat} {a1 : Int32} {h : Hp} {z} (hf : f_X4_turn o a1 h = some z) : rc 4 h o = some () := by
  unfold f_X4_turn at hf
  exact (bsome hf).choose_spec.1
set_option maxHeartbeats 2000000 in
set_option maxRecDepth 20000 in
theorem M_X4_turn {g : GT} {o : Nat} {a1 : Int32} {h : Hp} {r : Int32} {h2 : Hp} (hf : f_X4_turn o a1 h = some (r, h2)) : CM g yX4_turn cX4_turn 2 (some .int) 8 0 0 [.ref o, .int a1] h (.inr (some (.int r))) h2 := by
  refine CM_of rfl (fun _ => Nat.le_of_ble_eq_true rfl) (fun Γ C hn0 => ?_)
  have C : Cx g Γ cX4_turn RX4 "turn" 2 (some .int) 8 0 0 := C
  generalize hQ : Qe g Γ (.inr (some (.int r))) h2 0 0 = Q
  show U g Γ 2 Q 0 0 0 [(0, .ref o), (1, .int a1)] [] h
  unfold f_X4_turn at hf
  replace hf := (bsome hf).choose_spec.2
  refine U_aload_n (n := 1) 0 C dX4_turn_0 rfl rfl rfl ?_
  refine U_iload_n (n := 2) 1 C dX4_turn_1 rfl rfl ?_
  obtain ⟨v1, ev1, hf⟩ := bsome hf
  refine cv_RX4_95 (n := 5) C dX4_turn_2 (av := [.int a1]) rfl (rc_X4_isPoint ev1) (M_X4_isPoint ev1) (Nat.le_of_ble_eq_true rfl) (Nat.zero_le _) (Nat.zero_le _) (Nat.le_of_ble_eq_true rfl) rfl ?_
  refine U_ifne (tgt := 14) (n := 8) C dX4_turn_5 (by decide) rfl (fun c2 => ?_) (fun c2 => ?_)
  · replace hf := (if_pos c2).symm.trans hf
    refine U_aload_n (n := 9) 0 C dX4_turn_8 rfl rfl rfl ?_
    refine U_iconst (n := 10) (1 : Int32) C dX4_turn_9 kiconst_1 rfl ?_
    obtain ⟨v3, h4, ev3, hf⟩ := bsome2 hf
    refine cv_RX4_113 (n := 13) C dX4_turn_10 (av := [.int (1 : Int32)]) rfl (rc_X4_fails ev3) (M_X4_fails ev3) (Nat.le_of_ble_eq_true rfl) (Nat.zero_le _) (Nat.zero_le _) (Nat.le_of_ble_eq_true rfl) rfl ?_
    obtain ⟨hr1, hr2⟩ := Prod.mk.inj (Option.some.inj hf)
    subst hr1; subst hr2
    subst hQ
    exact U_iret C dX4_turn_13 (Nat.le_refl 0) (Nat.le_refl 0)
  · replace hf := (if_neg c2).symm.trans hf
    refine U_aload_n (n := 15) 0 C dX4_turn_14 rfl rfl rfl ?_
    obtain ⟨h6, ev5, hf⟩ := bsome hf
    refine cv_RX4_116 (n := 18) C dX4_turn_15 (av := []) rfl (rc_X4_hold ev5) (M_X4_hold ev5) (Nat.le_of_ble_eq_true rfl) (Nat.zero_le _) (Nat.zero_le _) (Nat.le_of_ble_eq_true rfl) rfl ?_
    refine U_aload_n (n := 19) 0 C dX4_turn_18 rfl rfl rfl ?_
    refine U_aload_n (n := 20) 0 C dX4_turn_19 rfl rfl rfl ?_
    refine U_iload_n (n := 21) 1 C dX4_turn_20 rfl rfl ?_
    obtain ⟨v7, h8, ev7, hf⟩ := bsome2 hf
    refine cv_RX4_170 (n := 24) C dX4_turn_21 (av := [.int a1]) rfl (rc_X4_flips ev7) (M_X4_flips ev7) (Nat.le_of_ble_eq_true rfl) (Nat.zero_le _) (Nat.zero_le _) (Nat.le_of_ble_eq_true rfl) rfl ?_
    obtain ⟨v9, h10, ev9, hf⟩ := bsome2 hf
    refine cv_RX4_119 (n := 27) C dX4_turn_24 (av := [.int v7]) rfl (rc_X4_ends ev9) (M_X4_ends ev9) (Nat.le_of_ble_eq_true rfl) (Nat.zero_le _) (Nat.zero_le _) (Nat.le_of_ble_eq_true rfl) rfl ?_
    obtain ⟨hr1, hr2⟩ := Prod.mk.inj (Option.some.inj hf)
    subst hr1; subst hr2
    subst hQ
    exact U_iret C dX4_turn_27 (Nat.le_refl 0) (Nat.le_refl 0)
def f_X4_exchanged (a0 : Int32) (a1 : Int32) (a2 : Int32) : Option Int32 :=
  if a0 = a1 then (
    some (a2)
  ) else (
    if a0 = a2 then (
      some (a1)
    ) else (
      some (a0)
    )
  )
set_option maxHeartbeats 2000000 in
set_option maxRecDepth 20000 in
theorem M_X4_exchanged {g : GT} {a0 : Int32} {a1 : Int32} {a2 : Int32} {h : Hp} {r : Int32} (hf : f_X4_exchanged a0 a1 a2 = some r) : CM g yX4_exchanged cX4_exchanged 3 (some .int) 6 0 0 [.int a0, .int a1, .int a2] h (.inr (some (.int r))) h := by
  refine CM_of rfl (fun _ => Nat.le_of_ble_eq_true rfl) (fun Γ C hn0 => ?_)
  have C : Cx g Γ cX4_exchanged RX4 "exchanged" 3 (some .int) 6 0 0 := C
  generalize hQ : Qe g Γ (.inr (some (.int r))) h 0 0 = Q
  show U g Γ 3 Q 0 0 0 [(0, .int a0), (1, .int a1), (2, .int a2)] [] h
  unfold f_X4_exchanged at hf
  refine U_iload_n (n := 1) 0 C dX4_exchanged_0 rfl rfl ?_
  refine U_iload_n (n := 2) 1 C dX4_exchanged_1 rfl rfl ?_
  refine U_icne (tgt := 9) (n := 5) C dX4_exchanged_2 (by decide) rfl (fun c1 => ?_) (fun c1 => ?_)
  · replace hf := (if_pos c1).symm.trans hf
    refine U_iload_n (n := 6) 2 C dX4_exchanged_5 rfl rfl ?_
    refine U_goto (n := 0) (tgt := 19) C dX4_exchanged_6 (by decide) ?_
    have hr := (Option.some.inj hf)
    subst hr
    subst hQ
    exact U_iret C dX4_exchanged_19 (Nat.le_refl 0) (Nat.le_refl 0)
  · replace hf := (if_neg c1).symm.trans hf
    refine U_iload_n (n := 10) 0 C dX4_exchanged_9 rfl rfl ?_
    refine U_iload_n (n := 11) 2 C dX4_exchanged_10 rfl rfl ?_
    refine U_icne (tgt := 18) (n := 14) C dX4_exchanged_11 (by decide) rfl (fun c2 => ?_) (fun c2 => ?_)
    · replace hf := (if_pos c2).symm.trans hf
      refine U_iload_n (n := 15) 1 C dX4_exchanged_14 rfl rfl ?_
      refine U_goto (n := 0) (tgt := 19) C dX4_exchanged_15 (by decide) ?_
      have hr := (Option.some.inj hf)
      subst hr
      subst hQ
      exact U_iret C dX4_exchanged_19 (Nat.le_refl 0) (Nat.le_refl 0)
    · replace hf := (if_neg c2).symm.trans hf
      refine U_iload_n (n := 19) 0 C dX4_exchanged_18 rfl rfl ?_
      have hr := (Option.some.inj hf)
      subst hr
      subst hQ
      exact U_iret C dX4_exchanged_19 (Nat.le_refl 0) (Nat.le_refl 0)
