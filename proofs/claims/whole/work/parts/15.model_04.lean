def l_X4_run_15 (p0 : Nat) : Nat → Hp → Option (Hp ⊕ (Int32 × Hp))
  | 0, _ => none
  | fuel + 1, h =>
    (fI 4 20 h p0).bind fun v5 =>
    (fI 4 5 h p0).bind fun v6 =>
    if v6 ≤ v5 then (
      some (.inl h)
    ) else (
      bind2 (f_X4_isCommand p0 h) fun v8 h9 =>
      if v8 = 0 then (
        (fI 4 20 h9 p0).bind fun v11 =>
        some (.inr ((((-1000 : Int32) - v11), h9)))
      ) else (
        bind2 (f_X4_skips p0 h9) fun v12 h13 =>
        l_X4_run_15 p0 fuel h13
      )
    )
def l_X4_run_68 (p0 : Nat) : Nat → Int32 → Int32 → Hp → Option (Int32 × Hp)
  | 0, _, _, _ => none
  | fuel + 1, x2, x3, h =>
    (fI 4 20 h p0).bind fun v23 =>
    (fI 4 5 h p0).bind fun v24 =>
    if v24 ≤ v23 then (
      some ((x2, h))
    ) else (
      if x3 = 0 then (
        some ((x2, h))
      ) else (
        bind2 (f_X4_isCommand p0 h) fun v27 h28 =>
        bind2 (
          if v27 = 0 then (
            some (((0 : Int32), h28))
          ) else (
            bind2 (f_X4_does p0 h28) fun v42 h43 =>
            if v42 = 0 then (
              some (((1 : Int32), h43))
            ) else (
              some (((0 : Int32), h43))
            )
          )
        ) fun v30 h31 =>
        (
          if v30 = 0 then (
            some ((0 : Int32))
          ) else (
            some ((1 : Int32))
          )
        ).bind fun v36 =>
        bind2 (f_X4_skips p0 h31) fun v40 h41 =>
        l_X4_run_68 p0 fuel (x2 + v36) v30 h41
      )
    )
def f_X4_run (o : Nat) (h : Hp) : Option (Int32 × Hp) :=
  (rc 4 h o).bind fun _ =>
  (sF 4 6 (.int (0 : Int32)) h o).bind fun h1 =>
  (sF 4 20 (.int (0 : Int32)) h1 o).bind fun h2 =>
  bind2 (f_X4_skips o h2) fun v3 h4 =>
  bindR1 (l_X4_run_15 o FU h4) fun h14 =>
  (f_X4_hold o h14).bind fun h19 =>
  (sF 4 20 (.int (0 : Int32)) h19 o).bind fun h20 =>
  bind2 (f_X4_skips o h20) fun v21 h22 =>
  bind2 (l_X4_run_68 o FU (0 : Int32) (1 : Int32) h22) fun v45 h46 =>
  bind2 (f_X4_ends o v45 h46) fun v47 h48 =>
  some ((v47, h48))
set_option maxHeartbeats 2000000 in
set_option maxRecDepth 20000 in
theorem L_X4_run_15 {g : GT} {Γ : CT} {Q : State → Prop} {mc ms : Nat} (C : Cx g Γ cX4_run RX4 "run" 4 (some .int) 12 mc ms) {p0 : Nat} : ∀ {fuel : Nat} {h : Hp} {out : (Hp ⊕ (Int32 × Hp))}, l_X4_run_15 p0 fuel h = some out → (∀ hy, out = .inl hy → U g Γ 4 Q 0 0 50 [(0, .ref p0)] [] hy) → (∀ r, out = .inr r → Qe g Γ (.inr (some (.int r.1))) r.2 0 0 = Q) → U g Γ 4 Q 0 0 15 [(0, .ref p0)] [] h := by
  intro fuel
  induction fuel with
  | zero =>
    intro h out hf J0 R0
    simp only [l_X4_run_15, reduceCtorEq] at hf
  | succ fuel ih =>
    intro h out hf J0 R0
    rw [l_X4_run_15] at hf
    refine U_aload_n (n := 16) 0 C dX4_run_15 rfl rfl rfl ?_
    refine gf_RX4_240 (n := 19) C dX4_run_16 hf rfl (fun v5 hf => ?_)
    refine U_aload_n (n := 20) 0 C dX4_run_19 rfl rfl rfl ?_
    refine gf_RX4_237 (n := 23) C dX4_run_20 hf rfl (fun v6 hf => ?_)
    refine U_icge (tgt := 50) (n := 26) C dX4_run_23 (by decide) rfl (fun c7 => ?_) (fun c7 => ?_)
    · replace hf := (if_pos c7).symm.trans hf
      have hr := Option.some.inj hf
      subst hr
      exact U_lv [0] rfl (J0 _ rfl)
    · replace hf := (if_neg c7).symm.trans hf
      refine U_aload_n (n := 27) 0 C dX4_run_26 rfl rfl rfl ?_
      obtain ⟨v8, h9, ev8, hf⟩ := bsome2 hf
      refine cv_RX4_273 (n := 30) C dX4_run_27 (av := []) rfl (rc_X4_isCommand ev8) (M_X4_isCommand ev8) (Nat.le_of_ble_eq_true rfl) (Nat.zero_le _) (Nat.zero_le _) (Nat.le_of_ble_eq_true rfl) rfl ?_
      refine U_ifne (tgt := 42) (n := 33) C dX4_run_30 (by decide) rfl (fun c10 => ?_) (fun c10 => ?_)
      · replace hf := (if_pos c10).symm.trans hf
        refine U_sipush (n := 36) (-1000 : Int32) C dX4_run_33 ksipush_m1000 rfl ?_
        refine U_aload_n (n := 37) 0 C dX4_run_36 rfl rfl rfl ?_
        refine gf_RX4_240 (n := 40) C dX4_run_37 hf rfl (fun v11 hf => ?_)
        refine U_isub (n := 41) C dX4_run_40 rfl ?_
        have hr := Option.some.inj hf
        subst hr
        have hQ := R0 _ rfl
        subst hQ
        exact U_iret C dX4_run_41 (Nat.le_refl 0) (Nat.le_refl 0)
      · replace hf := (if_neg c10).symm.trans hf
        refine U_aload_n (n := 43) 0 C dX4_run_42 rfl rfl rfl ?_
        obtain ⟨v12, h13, ev12, hf⟩ := bsome2 hf
        refine cv_RX4_270 (n := 46) C dX4_run_43 (av := []) rfl (rc_X4_skips ev12) (M_X4_skips ev12) (Nat.le_of_ble_eq_true rfl) (Nat.zero_le _) (Nat.zero_le _) (Nat.le_of_ble_eq_true rfl) rfl ?_
        refine U_istore_n (n := 47) (lv2 := [(1, .int v12), (0, .ref p0)]) C dX4_run_46 (by decide) rfl rfl ?_
        refine U_goto (n := 0) (tgt := 15) C dX4_run_47 (by decide) ?_
        exact U_lv [1] rfl (ih hf J0 R0)
set_option maxHeartbeats 2000000 in
set_option maxRecDepth 20000 in
theorem L_X4_run_68 {g : GT} {Γ : CT} {Q : State → Prop} {mc ms : Nat} (C : Cx g Γ cX4_run RX4 "run" 4 (some .int) 12 mc ms) {p0 : Nat} : ∀ {fuel : Nat} {x2 : Int32} {x3 : Int32} {h : Hp} {y2 : Int32} {hy : Hp}, l_X4_run_68 p0 fuel x2 x3 h = some (y2, hy) → U g Γ 4 Q 0 0 123 [(0, .ref p0), (2, .int y2)] [] hy → U g Γ 4 Q 0 0 68 [(0, .ref p0), (2, .int x2), (3, .int x3)] [] h := by
  intro fuel
  induction fuel with
  | zero =>
    intro x2 x3 h y2 hy hf J0
    simp only [l_X4_run_68, reduceCtorEq] at hf
  | succ fuel ih =>
    intro x2 x3 h y2 hy hf J0
    rw [l_X4_run_68] at hf
    refine U_aload_n (n := 69) 0 C dX4_run_68 rfl rfl rfl ?_
    refine gf_RX4_240 (n := 72) C dX4_run_69 hf rfl (fun v23 hf => ?_)
    refine U_aload_n (n := 73) 0 C dX4_run_72 rfl rfl rfl ?_
    refine gf_RX4_237 (n := 76) C dX4_run_73 hf rfl (fun v24 hf => ?_)
    refine U_icge (tgt := 123) (n := 79) C dX4_run_76 (by decide) rfl (fun c25 => ?_) (fun c25 => ?_)
    · replace hf := (if_pos c25).symm.trans hf
      obtain ⟨hr0, hs0⟩ := Prod.mk.inj (Option.some.inj hf)
      subst hr0
      subst hs0
      exact U_lv [0, 1] rfl J0
    · replace hf := (if_neg c25).symm.trans hf
      refine U_iload_n (n := 80) 2 C dX4_run_79 rfl rfl ?_
      refine U_ifeq (tgt := 123) (n := 83) C dX4_run_80 (by decide) rfl (fun c26 => ?_) (fun c26 => ?_)
      · replace hf := (if_pos c26).symm.trans hf
        obtain ⟨hr0, hs0⟩ := Prod.mk.inj (Option.some.inj hf)
        subst hr0
        subst hs0
        exact U_lv [0, 1] rfl J0
      · replace hf := (if_neg c26).symm.trans hf
        refine U_aload_n (n := 84) 0 C dX4_run_83 rfl rfl rfl ?_
        obtain ⟨v27, h28, ev27, hf⟩ := bsome2 hf
        refine cv_RX4_273 (n := 87) C dX4_run_84 (av := []) rfl (rc_X4_isCommand ev27) (M_X4_isCommand ev27) (Nat.le_of_ble_eq_true rfl) (Nat.zero_le _) (Nat.zero_le _) (Nat.le_of_ble_eq_true rfl) rfl ?_
        refine U_join2 (fun v30 h31 => U g Γ 4 Q 0 0 102 [(0, .ref p0), (2, .int x2)] [.int v30] h31) hf (fun v30 h31 hf => ?_) (fun v30 h31 hf J33 => ?_)
        · skip
          refine U_istore_n (n := 103) (lv2 := [(3, .int v30), (0, .ref p0), (2, .int x2)]) C dX4_run_102 (by decide) rfl rfl ?_
          refine U_iload_n (n := 104) 2 C dX4_run_103 rfl rfl ?_
          refine U_iload_n (n := 105) 0 C dX4_run_104 rfl rfl ?_
          refine U_join1 (fun v36 => U g Γ 4 Q 0 0 113 [(0, .ref p0), (3, .int v30)] [.int v36, .int x2] h31) hf (fun v36 hf => ?_) (fun v36 hf J38 => ?_)
          · skip
            refine U_iadd (n := 114) C dX4_run_113 rfl ?_
            refine U_istore_n (n := 115) (lv2 := [(2, .int (x2 + v36)), (0, .ref p0), (3, .int v30)]) C dX4_run_114 (by decide) rfl rfl ?_
            refine U_aload_n (n := 116) 1 C dX4_run_115 rfl rfl rfl ?_
            obtain ⟨v40, h41, ev40, hf⟩ := bsome2 hf
            refine cv_RX4_270 (n := 119) C dX4_run_116 (av := []) rfl (rc_X4_skips ev40) (M_X4_skips ev40) (Nat.le_of_ble_eq_true rfl) (Nat.zero_le _) (Nat.zero_le _) (Nat.le_of_ble_eq_true rfl) rfl ?_
            refine U_istore_n (n := 120) (lv2 := [(1, .int v40), (2, .int (x2 + v36)), (0, .ref p0), (3, .int v30)]) C dX4_run_119 (by decide) rfl rfl ?_
            refine U_goto (n := 0) (tgt := 68) C dX4_run_120 (by decide) ?_
            exact U_lv [2, 1, 3] rfl (ih hf J0)
          · skip
            refine U_ifeq (tgt := 112) (n := 108) C dX4_run_105 (by decide) rfl (fun c35 => ?_) (fun c35 => ?_)
            · replace hf := (if_pos c35).symm.trans hf
              refine U_iconst (n := 113) (0 : Int32) C dX4_run_112 kiconst_0 rfl ?_
              have hr := Option.some.inj hf
              subst hr
              exact U_lv [1, 0] rfl J38
            · replace hf := (if_neg c35).symm.trans hf
              refine U_iconst (n := 109) (1 : Int32) C dX4_run_108 kiconst_1 rfl ?_
              refine U_goto (n := 0) (tgt := 113) C dX4_run_109 (by decide) ?_
              have hr := Option.some.inj hf
              subst hr
              exact U_lv [1, 0] rfl J38
        · skip
          refine U_ifeq (tgt := 101) (n := 90) C dX4_run_87 (by decide) rfl (fun c29 => ?_) (fun c29 => ?_)
          · replace hf := (if_pos c29).symm.trans hf
            refine U_iconst (n := 102) (0 : Int32) C dX4_run_101 kiconst_0 rfl ?_
            obtain ⟨hr0, hs0⟩ := Prod.mk.inj (Option.some.inj hf)
            subst hr0
            subst hs0
            exact U_lv [0, 1] rfl J33
          · replace hf := (if_neg c29).symm.trans hf
            refine U_aload_n (n := 91) 0 C dX4_run_90 rfl rfl rfl ?_
            obtain ⟨v42, h43, ev42, hf⟩ := bsome2 hf
            refine cv_RX4_276 (n := 94) C dX4_run_91 (av := []) rfl (rc_X4_does ev42) (M_X4_does ev42) (Nat.le_of_ble_eq_true rfl) (Nat.zero_le _) (Nat.zero_le _) (Nat.le_of_ble_eq_true rfl) rfl ?_
            refine U_ifne (tgt := 101) (n := 97) C dX4_run_94 (by decide) rfl (fun c44 => ?_) (fun c44 => ?_)
            · replace hf := (if_pos c44).symm.trans hf
              refine U_iconst (n := 98) (1 : Int32) C dX4_run_97 kiconst_1 rfl ?_
              refine U_goto (n := 0) (tgt := 102) C dX4_run_98 (by decide) ?_
              obtain ⟨hr0, hs0⟩ := Prod.mk.inj (Option.some.inj hf)
              subst hr0
              subst hs0
              exact U_lv [0, 1] rfl J33
            · replace hf := (if_neg c44).symm.trans hf
              refine U_iconst (n := 102) (0 : Int32) C dX4_run_101 kiconst_0 rfl ?_
              obtain ⟨hr0, hs0⟩ := Prod.mk.inj (Option.some.inj hf)
              subst hr0
              subst hs0
              exact U_lv [0, 1] rfl J33
theorem rc_X4_run {o : Nat} {h : Hp} {z} (hf : f_X4_run o h = some z) : rc 4 h o = some () := by
  unfold f_X4_run at hf
  exact (bsome hf).choose_spec.1
set_option maxHeartbeats 2000000 in
set_option maxRecDepth 20000 in
theorem M_X4_run {g : GT} {o : Nat} {h : Hp} {r : Int32} {h2 : Hp} (hf : f_X4_run o h = some (r, h2)) : CM g yX4_run cX4_run 4 (some .int) 12 0 0 [.ref o] h (.inr (some (.int r))) h2 := by
  refine CM_of rfl (fun _ => Nat.le_of_ble_eq_true rfl) (fun Γ C hn0 => ?_)
  have C : Cx g Γ cX4_run RX4 "run" 4 (some .int) 12 0 0 := C
  generalize hQ : Qe g Γ (.inr (some (.int r))) h2 0 0 = Q
  show U g Γ 4 Q 0 0 0 [(0, .ref o)] [] h
  unfold f_X4_run at hf
  replace hf := (bsome hf).choose_spec.2
  refine U_aload_n (n := 1) 0 C dX4_run_0 rfl rfl rfl ?_
  refine U_iconst (n := 2) (0 : Int32) C dX4_run_1 kiconst_0 rfl ?_
  refine pf_RX4_60 (n := 5) C dX4_run_2 hf rfl (fun h1 hf => ?_)
  refine U_aload_n (n := 6) 0 C dX4_run_5 rfl rfl rfl ?_
  refine U_iconst (n := 7) (0 : Int32) C dX4_run_6 kiconst_0 rfl ?_
  refine pf_RX4_240 (n := 10) C dX4_run_7 hf rfl (fun h2 hf => ?_)
  refine U_aload_n (n := 11) 0 C dX4_run_10 rfl rfl rfl ?_
  obtain ⟨v3, h4, ev3, hf⟩ := bsome2 hf
  refine cv_RX4_270 (n := 14) C dX4_run_11 (av := []) rfl (rc_X4_skips ev3) (M_X4_skips ev3) (Nat.le_of_ble_eq_true rfl) (Nat.zero_le _) (Nat.zero_le _) (Nat.le_of_ble_eq_true rfl) rfl ?_
  refine U_istore_n (n := 15) (lv2 := [(1, .int v3), (0, .ref o)]) C dX4_run_14 (by decide) rfl rfl ?_
  refine U_joinR1 (fun h14 => U g Γ 4 Q 0 0 50 [(0, .ref o)] [] h14) hf (fun h14 hf => ?_) (fun o17 hf J15 R16 => U_lv [1] rfl (L_X4_run_15 C hf J15 ?_))
  rotate_left
  · intro r hr
    have hr2 := (R16 r hr)
    subst hr2
    exact hQ
  refine U_aload_n (n := 51) 0 C dX4_run_50 rfl rfl rfl ?_
  obtain ⟨h19, ev18, hf⟩ := bsome hf
  refine cv_RX4_116 (n := 54) C dX4_run_51 (av := []) rfl (rc_X4_hold ev18) (M_X4_hold ev18) (Nat.le_of_ble_eq_true rfl) (Nat.zero_le _) (Nat.zero_le _) (Nat.le_of_ble_eq_true rfl) rfl ?_
  refine U_aload_n (n := 55) 0 C dX4_run_54 rfl rfl rfl ?_
  refine U_iconst (n := 56) (0 : Int32) C dX4_run_55 kiconst_0 rfl ?_
  refine pf_RX4_240 (n := 59) C dX4_run_56 hf rfl (fun h20 hf => ?_)
  refine U_iconst (n := 60) (0 : Int32) C dX4_run_59 kiconst_0 rfl ?_
  refine U_istore_n (n := 61) (lv2 := [(2, .int (0 : Int32)), (0, .ref o)]) C dX4_run_60 (by decide) rfl rfl ?_
  refine U_iconst (n := 62) (1 : Int32) C dX4_run_61 kiconst_1 rfl ?_
  refine U_istore_n (n := 63) (lv2 := [(3, .int (1 : Int32)), (2, .int (0 : Int32)), (0, .ref o)]) C dX4_run_62 (by decide) rfl rfl ?_
  refine U_aload_n (n := 64) 2 C dX4_run_63 rfl rfl rfl ?_
  obtain ⟨v21, h22, ev21, hf⟩ := bsome2 hf
  refine cv_RX4_270 (n := 67) C dX4_run_64 (av := []) rfl (rc_X4_skips ev21) (M_X4_skips ev21) (Nat.le_of_ble_eq_true rfl) (Nat.zero_le _) (Nat.zero_le _) (Nat.le_of_ble_eq_true rfl) rfl ?_
  refine U_istore_n (n := 68) (lv2 := [(1, .int v21), (3, .int (1 : Int32)), (2, .int (0 : Int32)), (0, .ref o)]) C dX4_run_67 (by decide) rfl rfl ?_
  refine U_join2 (fun v45 h46 => U g Γ 4 Q 0 0 123 [(0, .ref o), (2, .int v45)] [] h46) hf (fun v45 h46 hf => ?_) (fun v45 h46 hf J => U_lv [3, 2, 1] rfl (L_X4_run_68 C hf J))
  refine U_aload_n (n := 124) 0 C dX4_run_123 rfl rfl rfl ?_
  refine U_iload_n (n := 125) 1 C dX4_run_124 rfl rfl ?_
  obtain ⟨v47, h48, ev47, hf⟩ := bsome2 hf
  refine cv_RX4_119 (n := 128) C dX4_run_125 (av := [.int v45]) rfl (rc_X4_ends ev47) (M_X4_ends ev47) (Nat.le_of_ble_eq_true rfl) (Nat.zero_le _) (Nat.zero_le _) (Nat.le_of_ble_eq_true rfl) rfl ?_
  obtain ⟨hr1, hr2⟩ := Prod.mk.inj (Option.some.inj hf)
  subst hr1; subst hr2
  subst hQ
  exact U_iret C dX4_run_128 (Nat.le_refl 0) (Nat.le_refl 0)
def f_X4_letterOf (a0 : Int32) (a1 : Int32) : Option Int32 :=
  (
    if a0 ≤ 0 then (
      if 0 ≤ a0 then (
        some ((525688008480 : Int64))
      ) else (
        some ((120299592184608 : Int64))
      )
    ) else (
      some ((482855973664 : Int64))
    )
  ).bind fun v2 =>
  (
    if 0 ≤ a0 then (
      some ((5 : Int32))
    ) else (
      some ((6 : Int32))
    )
  ).bind fun v7 =>
  if v7 ≤ a1 then (
    some ((-100 : Int32))
  ) else (
    some ((((v2 >>> ((((8 : Int32) * ((v7 - (1 : Int32)) - a1))).toInt64 &&& 63)) &&& (127 : Int64))).toInt32)
  )
set_option maxHeartbeats 2000000 in
set_option maxRecDepth 20000 in
theorem M_X4_letterOf {g : GT} {a0 : Int32} {a1 : Int32} {h : Hp} {r : Int32} (hf : f_X4_letterOf a0 a1 = some r) : CM g yX4_letterOf cX4_letterOf 5 (some .int) 6 0 0 [.int a0, .int a1] h (.inr (some (.int r))) h := by
  refine CM_of rfl (fun _ => Nat.le_of_ble_eq_true rfl) (fun Γ C hn0 => ?_)
  have C : Cx g Γ cX4_letterOf RX4 "letterOf" 5 (some .int) 6 0 0 := C
  generalize hQ : Qe g Γ (.inr (some (.int r))) h 0 0 = Q
  show U g Γ 5 Q 0 0 0 [(0, .int a0), (1, .int a1)] [] h
  unfold f_X4_letterOf at hf
  refine U_iload_n (n := 1) 0 C dX4_letterOf_0 rfl rfl ?_
  refine U_join1 (fun v2 => U g Γ 5 Q 0 0 23 [(0, .int a0), (1, .int a1)] [.long v2] h) hf (fun v2 hf => ?_) (fun v2 hf J4 => ?_)
  · skip
    refine U_lstore_n (n := 24) (lv2 := [(2, .long v2), (0, .int a0), (1, .int a1)]) C dX4_letterOf_23 (by decide) rfl rfl ?_
    refine U_iload_n (n := 25) 1 C dX4_letterOf_24 rfl rfl ?_
    refine U_join1 (fun v7 => U g Γ 5 Q 0 0 34 [(1, .int a1), (2, .long v2)] [.int v7] h) hf (fun v7 hf => ?_) (fun v7 hf J9 => ?_)
    · skip
      refine U_istore (n := 36) (lv2 := [(4, .int v7), (1, .int a1), (2, .long v2)]) C dX4_letterOf_34 (by decide) rfl rfl ?_
      refine U_iload_n (n := 37) 1 C dX4_letterOf_36 rfl rfl ?_
      refine U_iload (n := 39) 0 C dX4_letterOf_37 rfl rfl ?_
      refine U_icge (tgt := 61) (n := 42) C dX4_letterOf_39 (by decide) rfl (fun c11 => ?_) (fun c11 => ?_)
      · replace hf := (if_pos c11).symm.trans hf
        refine U_bipush (n := 63) (-100 : Int32) C dX4_letterOf_61 kbipush_m100 rfl ?_
        have hr := (Option.some.inj hf)
        subst hr
        subst hQ
        exact U_iret C dX4_letterOf_63 (Nat.le_refl 0) (Nat.le_refl 0)
      · replace hf := (if_neg c11).symm.trans hf
        refine U_lload_n (n := 43) 2 C dX4_letterOf_42 rfl rfl ?_
        refine U_bipush (n := 45) (8 : Int32) C dX4_letterOf_43 kbipush_8 rfl ?_
        refine U_iload (n := 47) 0 C dX4_letterOf_45 rfl rfl ?_
        refine U_iconst (n := 48) (1 : Int32) C dX4_letterOf_47 kiconst_1 rfl ?_
        refine U_isub (n := 49) C dX4_letterOf_48 rfl ?_
        refine U_iload_n (n := 50) 1 C dX4_letterOf_49 rfl rfl ?_
        refine U_isub (n := 51) C dX4_letterOf_50 rfl ?_
        refine U_imul (n := 52) C dX4_letterOf_51 rfl ?_
        refine U_lshr (n := 53) C dX4_letterOf_52 rfl ?_
        refine U_ldc2 (n := 56) (127 : Int64) C dX4_letterOf_53 ct_RX4_285 rfl ?_
        refine U_land (n := 57) C dX4_letterOf_56 rfl ?_
        refine U_l2i (n := 58) C dX4_letterOf_57 rfl ?_
        refine U_goto (n := 0) (tgt := 63) C dX4_letterOf_58 (by decide) ?_
        have hr := (Option.some.inj hf)
        subst hr
        subst hQ
        exact U_iret C dX4_letterOf_63 (Nat.le_refl 0) (Nat.le_refl 0)
    · skip
      refine U_ifge (tgt := 33) (n := 28) C dX4_letterOf_25 (by decide) rfl (fun c6 => ?_) (fun c6 => ?_)
      · replace hf := (if_pos c6).symm.trans hf
        refine U_iconst (n := 34) (5 : Int32) C dX4_letterOf_33 kiconst_5 rfl ?_
        have hr := Option.some.inj hf
        subst hr
        exact U_lv [2, 0] rfl J9
      · replace hf := (if_neg c6).symm.trans hf
        refine U_bipush (n := 30) (6 : Int32) C dX4_letterOf_28 kbipush_6 rfl ?_
        refine U_goto (n := 0) (tgt := 34) C dX4_letterOf_30 (by decide) ?_
        have hr := Option.some.inj hf
        subst hr
        exact U_lv [2, 0] rfl J9
  · skip
    refine U_ifle (tgt := 10) (n := 4) C dX4_letterOf_1 (by decide) rfl (fun c1 => ?_) (fun c1 => ?_)
    · replace hf := (if_pos c1).symm.trans hf
      refine U_iload_n (n := 11) 0 C dX4_letterOf_10 rfl rfl ?_
      refine U_ifge (tgt := 20) (n := 14) C dX4_letterOf_11 (by decide) rfl (fun c12 => ?_) (fun c12 => ?_)
      · replace hf := (if_pos c12).symm.trans hf
        refine U_ldc2 (n := 23) (525688008480 : Int64) C dX4_letterOf_20 ct_RX4_283 rfl ?_
        have hr := Option.some.inj hf
        subst hr
        exact U_lv [0, 1] rfl J4
      · replace hf := (if_neg c12).symm.trans hf
        refine U_ldc2 (n := 17) (120299592184608 : Int64) C dX4_letterOf_14 ct_RX4_281 rfl ?_
        refine U_goto (n := 0) (tgt := 23) C dX4_letterOf_17 (by decide) ?_
        have hr := Option.some.inj hf
        subst hr
        exact U_lv [0, 1] rfl J4
    · replace hf := (if_neg c1).symm.trans hf
      refine U_ldc2 (n := 7) (482855973664 : Int64) C dX4_letterOf_4 ct_RX4_279 rfl ?_
      refine U_goto (n := 0) (tgt := 23) C dX4_letterOf_7 (by decide) ?_
      have hr := Option.some.inj hf
      subst hr
      exact U_lv [0, 1] rfl J4
def l_X4_written_14 (p0 : Nat) (h : Hp) : Nat → Int32 → Int32 → Option (Unit ⊕ (Int32 × Hp))
  | 0, _, _ => none
  | fuel + 1, x2, x3 =>
    (fI 4 9 h p0).bind fun v2 =>
    if v2 ≤ x3 then (
      some (.inl ())
    ) else (
      (f_X4_get p0 x3 (1 : Int32) h).bind fun v4 =>
      bindQ1 (
        if v4 = (1 : Int32) then (
          (f_X4_get p0 x3 (0 : Int32) h).bind fun v10 =>
          (
            if 0 ≤ v10 then (
              some ((5 : Int32))
            ) else (
              some ((6 : Int32))
            )
          ).bind fun v12 =>
          if v12 ≤ x2 then (
            if (v12 + (4 : Int32)) ≤ x2 then (
              some (Sum.inl (x2 - (v12 + (4 : Int32))))
            ) else (
              if x2 = (v12 + (3 : Int32)) then (
                bind2 (f_X4_tells p0 (59 : Int32) h) fun v19 h20 =>
                some (.inr ((v19, h20)))
              ) else (
                (fR 4 7 h p0).bind fun v21 =>
                (aI h v21 ((((3 : Int32) * x3) + x2) - v12)).bind fun v22 =>
                bind2 (f_X4_tells p0 ((97 : Int32) + v22) h) fun v23 h24 =>
                some (.inr ((v23, h24)))
              )
            )
          ) else (
            (f_X4_get p0 x3 (0 : Int32) h).bind fun v25 =>
            (f_X4_letterOf v25 x2).bind fun v26 =>
            bind2 (f_X4_tells p0 v26 h) fun v27 h28 =>
            some (.inr ((v27, h28)))
          )
        ) else (
          some (Sum.inl x2)
        )
      ) fun v6 =>
      l_X4_written_14 p0 h fuel v6 (x3 + 1)
    )
def f_X4_written (o : Nat) (a1 : Int32) (h : Hp) : Option (Int32 × Hp) :=
  (rc 4 h o).bind fun _ =>
  if 0 ≤ a1 then (
    bindR0 (l_X4_written_14 o h FU a1 (0 : Int32)) fun _ =>
    bind2 (f_X4_tells o (-100 : Int32) h) fun v32 h33 =>
    some ((v32, h33))
  ) else (
    bind2 (f_X4_fails o (1 : Int32) h) fun v34 h35 =>
    some ((v34, h35))
  )
set_option maxHeartbeats 2000000 in
set_option maxRecDepth 20000 in
theorem L_X4_written_14 {g : GT} {Γ : CT} {Q : State → Prop} {mc ms : Nat} (C : Cx g Γ cX4_written RX4 "written" 5 (some .int) 7 mc ms) {p0 : Nat} {h : Hp} : ∀ {fuel : Nat} {x2 : Int32} {x3 : Int32} {out : (Unit ⊕ (Int32 × Hp))}, l_X4_written_14 p0 h fuel x2 x3 = some out → (out = .inl () → U g Γ 5 Q 0 0 125 [(0, .ref p0)] [] h) → (∀ r, out = .inr r → Qe g Γ (.inr (some (.int r.1))) r.2 0 0 = Q) → U g Γ 5 Q 0 0 14 [(0, .ref p0), (2, .int x2), (3, .int x3)] [] h := by
  intro fuel
  induction fuel with
  | zero =>
    intro x2 x3 out hf J0 R0
    simp only [l_X4_written_14, reduceCtorEq] at hf
  | succ fuel ih =>
    intro x2 x3 out hf J0 R0
    rw [l_X4_written_14] at hf
    refine U_iload_n (n := 15) 2 C dX4_written_14 rfl rfl ?_
    refine U_aload_n (n := 16) 0 C dX4_written_15 rfl rfl rfl ?_
    refine gf_RX4_71 (n := 19) C dX4_written_16 hf rfl (fun v2 hf => ?_)
    refine U_icge (tgt := 125) (n := 22) C dX4_written_19 (by decide) rfl (fun c3 => ?_) (fun c3 => ?_)
    · replace hf := (if_pos c3).symm.trans hf
      have hr := Option.some.inj hf
      subst hr
      exact U_lv [0] rfl (J0 rfl)
    · replace hf := (if_neg c3).symm.trans hf
      refine U_aload_n (n := 23) 0 C dX4_written_22 rfl rfl rfl ?_
      refine U_iload_n (n := 24) 2 C dX4_written_23 rfl rfl ?_
      refine U_iconst (n := 25) (1 : Int32) C dX4_written_24 kiconst_1 rfl ?_
      obtain ⟨v4, ev4, hf⟩ := bsome hf
      refine cv_RX4_106 (n := 28) C dX4_written_25 (av := [.int x3, .int (1 : Int32)]) rfl (rc_X4_get ev4) (M_X4_get ev4) (Nat.le_of_ble_eq_true rfl) (Nat.zero_le _) (Nat.zero_le _) (Nat.le_of_ble_eq_true rfl) rfl ?_
      refine U_iconst (n := 29) (1 : Int32) C dX4_written_28 kiconst_1 rfl ?_
      refine U_joinQ1 (fun v6 => U g Γ 5 Q 0 0 119 [(0, .ref p0), (2, .int v6), (3, .int x3)] [] h) hf (fun v6 hf => ?_) (fun o7 hf J8 R9 => ?_)
      · skip
        refine U_iinc (n := 122) (v := (x3 + 1)) (lv2 := [(3, .int (x3 + 1)), (0, .ref p0), (2, .int v6)]) 2 C dX4_written_119 rfl rfl (by decide) rfl rfl ?_
        refine U_goto (n := 0) (tgt := 14) C dX4_written_122 (by decide) ?_
        exact U_lv [1, 2, 0] rfl (ih hf J0 R0)
      · skip
        refine U_icne (tgt := 119) (n := 32) C dX4_written_29 (by decide) rfl (fun c5 => ?_) (fun c5 => ?_)
        · replace hf := (if_pos c5).symm.trans hf
          refine U_aload_n (n := 33) 0 C dX4_written_32 rfl rfl rfl ?_
          refine U_iload_n (n := 34) 2 C dX4_written_33 rfl rfl ?_
          refine U_iconst (n := 35) (0 : Int32) C dX4_written_34 kiconst_0 rfl ?_
          obtain ⟨v10, ev10, hf⟩ := bsome hf
          refine cv_RX4_106 (n := 38) C dX4_written_35 (av := [.int x3, .int (0 : Int32)]) rfl (rc_X4_get ev10) (M_X4_get ev10) (Nat.le_of_ble_eq_true rfl) (Nat.zero_le _) (Nat.zero_le _) (Nat.le_of_ble_eq_true rfl) rfl ?_
          refine U_join1 (fun v12 => U g Γ 5 Q 0 0 47 [(0, .ref p0), (2, .int x2), (3, .int x3)] [.int v12] h) hf (fun v12 hf => ?_) (fun v12 hf J14 => ?_)
          · skip
            refine U_istore (n := 49) (lv2 := [(4, .int v12), (0, .ref p0), (2, .int x2), (3, .int x3)]) C dX4_written_47 (by decide) rfl rfl ?_
            refine U_iload_n (n := 50) 2 C dX4_written_49 rfl rfl ?_
            refine U_iload (n := 52) 0 C dX4_written_50 rfl rfl ?_
            refine U_icge (tgt := 70) (n := 55) C dX4_written_52 (by decide) rfl (fun c16 => ?_) (fun c16 => ?_)
            · replace hf := (if_pos c16).symm.trans hf
              refine U_iload_n (n := 71) 2 C dX4_written_70 rfl rfl ?_
              refine U_iload (n := 73) 0 C dX4_written_71 rfl rfl ?_
              refine U_iconst (n := 74) (4 : Int32) C dX4_written_73 kiconst_4 rfl ?_
              refine U_iadd (n := 75) C dX4_written_74 rfl ?_
              refine U_icge (tgt := 112) (n := 78) C dX4_written_75 (by decide) rfl (fun c17 => ?_) (fun c17 => ?_)
              · replace hf := (if_pos c17).symm.trans hf
                refine U_iload_n (n := 113) 2 C dX4_written_112 rfl rfl ?_
                refine U_iload (n := 115) 0 C dX4_written_113 rfl rfl ?_
                refine U_iconst (n := 116) (4 : Int32) C dX4_written_115 kiconst_4 rfl ?_
                refine U_iadd (n := 117) C dX4_written_116 rfl ?_
                refine U_isub (n := 118) C dX4_written_117 rfl ?_
                refine U_istore_n (n := 119) (lv2 := [(2, .int (x2 - (v12 + (4 : Int32)))), (4, .int v12), (0, .ref p0), (3, .int x3)]) C dX4_written_118 (by decide) rfl rfl ?_
                have hr := Option.some.inj hf
                subst hr
                exact U_lv [2, 0, 3] rfl (J8 _ rfl)
              · replace hf := (if_neg c17).symm.trans hf
                refine U_aload_n (n := 79) 1 C dX4_written_78 rfl rfl rfl ?_
                refine U_iload_n (n := 80) 2 C dX4_written_79 rfl rfl ?_
                refine U_iload (n := 82) 0 C dX4_written_80 rfl rfl ?_
                refine U_iconst (n := 83) (3 : Int32) C dX4_written_82 kiconst_3 rfl ?_
                refine U_iadd (n := 84) C dX4_written_83 rfl ?_
                refine U_icne (tgt := 92) (n := 87) C dX4_written_84 (by decide) rfl (fun c18 => ?_) (fun c18 => ?_)
                · replace hf := (if_pos c18).symm.trans hf
                  refine U_bipush (n := 89) (59 : Int32) C dX4_written_87 kbipush_59 rfl ?_
                  refine U_goto (n := 0) (tgt := 108) C dX4_written_89 (by decide) ?_
                  obtain ⟨v19, h20, ev19, hf⟩ := bsome2 hf
                  refine cv_RX4_67 (n := 111) C dX4_written_108 (av := [.int (59 : Int32)]) rfl (rc_X4_tells ev19) (M_X4_tells ev19) (Nat.le_of_ble_eq_true rfl) (Nat.zero_le _) (Nat.zero_le _) (Nat.le_of_ble_eq_true rfl) rfl ?_
                  have hr := Option.some.inj hf
                  subst hr
                  have hQ := R0 _ (R9 _ rfl)
                  subst hQ
                  exact U_iret C dX4_written_111 (Nat.le_refl 0) (Nat.le_refl 0)
                · replace hf := (if_neg c18).symm.trans hf
                  refine U_bipush (n := 94) (97 : Int32) C dX4_written_92 kbipush_97 rfl ?_
                  refine U_aload_n (n := 95) 1 C dX4_written_94 rfl rfl rfl ?_
                  refine gf_RX4_22 (n := 98) C dX4_written_95 hf rfl (fun v21 hf => ?_)
                  refine U_iconst (n := 99) (3 : Int32) C dX4_written_98 kiconst_3 rfl ?_
                  refine U_iload_n (n := 100) 3 C dX4_written_99 rfl rfl ?_
                  refine U_imul (n := 101) C dX4_written_100 rfl ?_
                  refine U_iload_n (n := 102) 2 C dX4_written_101 rfl rfl ?_
                  refine U_iadd (n := 103) C dX4_written_102 rfl ?_
                  refine U_iload (n := 105) 0 C dX4_written_103 rfl rfl ?_
                  refine U_isub (n := 106) C dX4_written_105 rfl ?_
                  refine U_iald (n := 107) C dX4_written_106 hf rfl (fun v22 hf => ?_)
                  refine U_iadd (n := 108) C dX4_written_107 rfl ?_
                  obtain ⟨v23, h24, ev23, hf⟩ := bsome2 hf
                  refine cv_RX4_67 (n := 111) C dX4_written_108 (av := [.int ((97 : Int32) + v22)]) rfl (rc_X4_tells ev23) (M_X4_tells ev23) (Nat.le_of_ble_eq_true rfl) (Nat.zero_le _) (Nat.zero_le _) (Nat.le_of_ble_eq_true rfl) rfl ?_
                  have hr := Option.some.inj hf
                  subst hr
                  have hQ := R0 _ (R9 _ rfl)
                  subst hQ
                  exact U_iret C dX4_written_111 (Nat.le_refl 0) (Nat.le_refl 0)
            · replace hf := (if_neg c16).symm.trans hf
              refine U_aload_n (n := 56) 1 C dX4_written_55 rfl rfl rfl ?_
              refine U_aload_n (n := 57) 1 C dX4_written_56 rfl rfl rfl ?_
              refine U_iload_n (n := 58) 3 C dX4_written_57 rfl rfl ?_
              refine U_iconst (n := 59) (0 : Int32) C dX4_written_58 kiconst_0 rfl ?_
              obtain ⟨v25, ev25, hf⟩ := bsome hf
              refine cv_RX4_106 (n := 62) C dX4_written_59 (av := [.int x3, .int (0 : Int32)]) rfl (rc_X4_get ev25) (M_X4_get ev25) (Nat.le_of_ble_eq_true rfl) (Nat.zero_le _) (Nat.zero_le _) (Nat.le_of_ble_eq_true rfl) rfl ?_
              refine U_iload_n (n := 63) 2 C dX4_written_62 rfl rfl ?_
              obtain ⟨v26, ev26, hf⟩ := bsome hf
              refine cv_RX4_287 (n := 66) C dX4_written_63 (av := [.int v25, .int x2]) rfl (M_X4_letterOf ev26) (Nat.le_of_ble_eq_true rfl) (Nat.zero_le _) (Nat.zero_le _) (Nat.le_of_ble_eq_true rfl) rfl ?_
              obtain ⟨v27, h28, ev27, hf⟩ := bsome2 hf
              refine cv_RX4_67 (n := 69) C dX4_written_66 (av := [.int v26]) rfl (rc_X4_tells ev27) (M_X4_tells ev27) (Nat.le_of_ble_eq_true rfl) (Nat.zero_le _) (Nat.zero_le _) (Nat.le_of_ble_eq_true rfl) rfl ?_
              have hr := Option.some.inj hf
              subst hr
              have hQ := R0 _ (R9 _ rfl)
              subst hQ
              exact U_iret C dX4_written_69 (Nat.le_refl 0) (Nat.le_refl 0)
          · skip
            refine U_ifge (tgt := 46) (n := 41) C dX4_written_38 (by decide) rfl (fun c11 => ?_) (fun c11 => ?_)
            · replace hf := (if_pos c11).symm.trans hf
              refine U_iconst (n := 47) (5 : Int32) C dX4_written_46 kiconst_5 rfl ?_
              have hr := Option.some.inj hf
              subst hr
              exact U_lv [0, 1, 2] rfl J14
            · replace hf := (if_neg c11).symm.trans hf
              refine U_bipush (n := 43) (6 : Int32) C dX4_written_41 kbipush_6 rfl ?_
              refine U_goto (n := 0) (tgt := 47) C dX4_written_43 (by decide) ?_
              have hr := Option.some.inj hf
              subst hr
              exact U_lv [0, 1, 2] rfl J14
        · replace hf := (if_neg c5).symm.trans hf
          have hr := Option.some.inj hf
          subst hr
          exact U_lv [0, 1, 2] rfl (J8 _ rfl)
theorem rc_X4_written {o : Nat} {a1 : Int32} {h : Hp} {z} (hf : f_X4_written o a1 h = some z) : rc 4 h o = some () := by
  unfold f_X4_written at hf
  exact (bsome hf).choose_spec.1
set_option maxHeartbeats 2000000 in
set_option maxRecDepth 20000 in
theorem M_X4_written {g : GT} {o : Nat} {a1 : Int32} {h : Hp} {r : Int32} {h2 : Hp} (hf : f_X4_written o a1 h = some (r, h2)) : CM g yX4_written cX4_written 5 (some .int) 7 0 0 [.ref o, .int a1] h (.inr (some (.int r))) h2 := by
  refine CM_of rfl (fun _ => Nat.le_of_ble_eq_true rfl) (fun Γ C hn0 => ?_)
  have C : Cx g Γ cX4_written RX4 "written" 5 (some .int) 7 0 0 := C
  generalize hQ : Qe g Γ (.inr (some (.int r))) h2 0 0 = Q
  show U g Γ 5 Q 0 0 0 [(0, .ref o), (1, .int a1)] [] h
  unfold f_X4_written at hf
  replace hf := (bsome hf).choose_spec.2
  refine U_iload_n (n := 1) 1 C dX4_written_0 rfl rfl ?_
  refine U_ifge (tgt := 10) (n := 4) C dX4_written_1 (by decide) rfl (fun c1 => ?_) (fun c1 => ?_)
  · replace hf := (if_pos c1).symm.trans hf
    refine U_iload_n (n := 11) 1 C dX4_written_10 rfl rfl ?_
    refine U_istore_n (n := 12) (lv2 := [(2, .int a1), (0, .ref o), (1, .int a1)]) C dX4_written_11 (by decide) rfl rfl ?_
    refine U_iconst (n := 13) (0 : Int32) C dX4_written_12 kiconst_0 rfl ?_
    refine U_istore_n (n := 14) (lv2 := [(3, .int (0 : Int32)), (2, .int a1), (0, .ref o), (1, .int a1)]) C dX4_written_13 (by decide) rfl rfl ?_
    refine U_joinR0 (U g Γ 5 Q 0 0 125 [(0, .ref o)] [] h) hf (fun hf => ?_) (fun o31 hf J29 R30 => U_lv [2, 1, 0] rfl (L_X4_written_14 C hf J29 ?_))
    rotate_left
    · intro r hr
      have hr2 := (R30 r hr)
      subst hr2
      exact hQ
    refine U_aload_n (n := 126) 0 C dX4_written_125 rfl rfl rfl ?_
    refine U_bipush (n := 128) (-100 : Int32) C dX4_written_126 kbipush_m100 rfl ?_
    obtain ⟨v32, h33, ev32, hf⟩ := bsome2 hf
    refine cv_RX4_67 (n := 131) C dX4_written_128 (av := [.int (-100 : Int32)]) rfl (rc_X4_tells ev32) (M_X4_tells ev32) (Nat.le_of_ble_eq_true rfl) (Nat.zero_le _) (Nat.zero_le _) (Nat.le_of_ble_eq_true rfl) rfl ?_
    obtain ⟨hr1, hr2⟩ := Prod.mk.inj (Option.some.inj hf)
    subst hr1; subst hr2
    subst hQ
    exact U_iret C dX4_written_131 (Nat.le_refl 0) (Nat.le_refl 0)
  · replace hf := (if_neg c1).symm.trans hf
    refine U_aload_n (n := 5) 0 C dX4_written_4 rfl rfl rfl ?_
    refine U_iconst (n := 6) (1 : Int32) C dX4_written_5 kiconst_1 rfl ?_
    obtain ⟨v34, h35, ev34, hf⟩ := bsome2 hf
    refine cv_RX4_113 (n := 9) C dX4_written_6 (av := [.int (1 : Int32)]) rfl (rc_X4_fails ev34) (M_X4_fails ev34) (Nat.le_of_ble_eq_true rfl) (Nat.zero_le _) (Nat.zero_le _) (Nat.le_of_ble_eq_true rfl) rfl ?_
    obtain ⟨hr1, hr2⟩ := Prod.mk.inj (Option.some.inj hf)
    subst hr1; subst hr2
    subst hQ
    exact U_iret C dX4_written_9 (Nat.le_refl 0) (Nat.le_refl 0)
def l_X4_undo_25 (p0 : Nat) : Nat → Int32 → Hp → Option Hp
  | 0, _, _ => none
  | fuel + 1, x1, h =>
    if (243 : Int32) ≤ x1 then (
      some h
    ) else (
      (fR 4 0 h p0).bind fun v8 =>
      (fR 4 1 h p0).bind fun v9 =>
      (fI 4 3 h p0).bind fun v10 =>
      (aI h v9 (((243 : Int32) * v10) + x1)).bind fun v11 =>
      (wI h v8 x1 v11).bind fun h12 =>
      l_X4_undo_25 p0 fuel (x1 + 1) h12
    )
def f_X4_undo (o : Nat) (h : Hp) : Option (Int32 × Hp) :=
  (rc 4 h o).bind fun _ =>
  (fI 4 3 h o).bind fun v1 =>
  if v1 = 0 then (
    bind2 (f_X4_fails o (1 : Int32) h) fun v3 h4 =>
    some ((v3, h4))
  ) else (
    (fI 4 3 h o).bind fun v5 =>
    (sF 4 3 (.int (v5 - (1 : Int32))) h o).bind fun h6 =>
    (l_X4_undo_25 o FU (0 : Int32) h6).bind fun h13 =>
    (f_X4_lays o h13).bind fun h15 =>
    (fI 4 3 h15 o).bind fun v16 =>
    bind2 (f_X4_tells o v16 h15) fun v17 h18 =>
    some ((v17, h18))
  )
set_option maxHeartbeats 2000000 in
set_option maxRecDepth 20000 in
theorem L_X4_undo_25 {g : GT} {Γ : CT} {Q : State → Prop} {mc ms : Nat} (C : Cx g Γ cX4_undo RX4 "undo" 2 (some .int) 8 mc ms) {p0 : Nat} : ∀ {fuel : Nat} {x1 : Int32} {h : Hp} {hy : Hp}, l_X4_undo_25 p0 fuel x1 h = some hy → U g Γ 2 Q 0 0 59 [(0, .ref p0)] [] hy → U g Γ 2 Q 0 0 25 [(0, .ref p0), (1, .int x1)] [] h := by
  intro fuel
  induction fuel with
  | zero =>
    intro x1 h hy hf J0
    simp only [l_X4_undo_25, reduceCtorEq] at hf
  | succ fuel ih =>
    intro x1 h hy hf J0
    rw [l_X4_undo_25] at hf
    refine U_iload_n (n := 26) 1 C dX4_undo_25 rfl rfl ?_
    refine U_sipush (n := 29) (243 : Int32) C dX4_undo_26 ksipush_243 rfl ?_
    refine U_icge (tgt := 59) (n := 32) C dX4_undo_29 (by decide) rfl (fun c7 => ?_) (fun c7 => ?_)
    · replace hf := (if_pos c7).symm.trans hf
      have hr := Option.some.inj hf
      subst hr
      exact U_lv [0] rfl J0
    · replace hf := (if_neg c7).symm.trans hf
      refine U_aload_n (n := 33) 0 C dX4_undo_32 rfl rfl rfl ?_
      refine gf_RX4_7 (n := 36) C dX4_undo_33 hf rfl (fun v8 hf => ?_)
      refine U_iload_n (n := 37) 1 C dX4_undo_36 rfl rfl ?_
      refine U_aload_n (n := 38) 0 C dX4_undo_37 rfl rfl rfl ?_
      refine gf_RX4_13 (n := 41) C dX4_undo_38 hf rfl (fun v9 hf => ?_)
      refine U_sipush (n := 44) (243 : Int32) C dX4_undo_41 ksipush_243 rfl ?_
      refine U_aload_n (n := 45) 0 C dX4_undo_44 rfl rfl rfl ?_
      refine gf_RX4_64 (n := 48) C dX4_undo_45 hf rfl (fun v10 hf => ?_)
      refine U_imul (n := 49) C dX4_undo_48 rfl ?_
      refine U_iload_n (n := 50) 1 C dX4_undo_49 rfl rfl ?_
      refine U_iadd (n := 51) C dX4_undo_50 rfl ?_
      refine U_iald (n := 52) C dX4_undo_51 hf rfl (fun v11 hf => ?_)
      refine U_iast (n := 53) C dX4_undo_52 hf rfl (fun h12 hf => ?_)
      refine U_iinc (n := 56) (v := (x1 + 1)) (lv2 := [(1, .int (x1 + 1)), (0, .ref p0)]) 1 C dX4_undo_53 rfl rfl (by decide) rfl rfl ?_
      refine U_goto (n := 0) (tgt := 25) C dX4_undo_56 (by decide) ?_
      exact U_lv [1, 0] rfl (ih hf J0)
theorem rc_X4_undo {o : Nat} {h : Hp} {z} (hf : f_X4_undo o h = some z) : rc 4 h o = some () := by
  unfold f_X4_undo at hf
  exact (bsome hf).choose_spec.1
set_option maxHeartbeats 2000000 in
set_option maxRecDepth 20000 in
theorem M_X4_undo {g : GT} {o : Nat} {h : Hp} {r : Int32} {h2 : Hp} (hf : f_X4_undo o h = some (r, h2)) : CM g yX4_undo cX4_undo 2 (some .int) 8 0 0 [.ref o] h (.inr (some (.int r))) h2 := by
  refine CM_of rfl (fun _ => Nat.le_of_ble_eq_true rfl) (fun Γ C hn0 => ?_)
  have C : Cx g Γ cX4_undo RX4 "undo" 2 (some .int) 8 0 0 := C
  generalize hQ : Qe g Γ (.inr (some (.int r))) h2 0 0 = Q
  show U g Γ 2 Q 0 0 0 [(0, .ref o)] [] h
  unfold f_X4_undo at hf
  replace hf := (bsome hf).choose_spec.2
  refine U_aload_n (n := 1) 0 C dX4_undo_0 rfl rfl rfl ?_
  refine gf_RX4_64 (n := 4) C dX4_undo_1 hf rfl (fun v1 hf => ?_)
  refine U_ifne (tgt := 13) (n := 7) C dX4_undo_4 (by decide) rfl (fun c2 => ?_) (fun c2 => ?_)
  · replace hf := (if_pos c2).symm.trans hf
    refine U_aload_n (n := 8) 0 C dX4_undo_7 rfl rfl rfl ?_
    refine U_iconst (n := 9) (1 : Int32) C dX4_undo_8 kiconst_1 rfl ?_
    obtain ⟨v3, h4, ev3, hf⟩ := bsome2 hf
    refine cv_RX4_113 (n := 12) C dX4_undo_9 (av := [.int (1 : Int32)]) rfl (rc_X4_fails ev3) (M_X4_fails ev3) (Nat.le_of_ble_eq_true rfl) (Nat.zero_le _) (Nat.zero_le _) (Nat.le_of_ble_eq_true rfl) rfl ?_
    obtain ⟨hr1, hr2⟩ := Prod.mk.inj (Option.some.inj hf)
    subst hr1; subst hr2
    subst hQ
    exact U_iret C dX4_undo_12 (Nat.le_refl 0) (Nat.le_refl 0)
  · replace hf := (if_neg c2).symm.trans hf
    refine U_aload_n (n := 14) 0 C dX4_undo_13 rfl rfl rfl ?_
    refine U_dup (n := 15) C dX4_undo_14 rfl rfl ?_
    refine gf_RX4_64 (n := 18) C dX4_undo_15 hf rfl (fun v5 hf => ?_)
    refine U_iconst (n := 19) (1 : Int32) C dX4_undo_18 kiconst_1 rfl ?_
    refine U_isub (n := 20) C dX4_undo_19 rfl ?_
    refine pf_RX4_64 (n := 23) C dX4_undo_20 hf rfl (fun h6 hf => ?_)
    refine U_iconst (n := 24) (0 : Int32) C dX4_undo_23 kiconst_0 rfl ?_
    refine U_istore_n (n := 25) (lv2 := [(1, .int (0 : Int32)), (0, .ref o)]) C dX4_undo_24 (by decide) rfl rfl ?_
    refine U_join1 (fun h13 => U g Γ 2 Q 0 0 59 [(0, .ref o)] [] h13) hf (fun h13 hf => ?_) (fun h13 hf J => U_lv [1, 0] rfl (L_X4_undo_25 C hf J))
    refine U_aload_n (n := 60) 0 C dX4_undo_59 rfl rfl rfl ?_
    obtain ⟨h15, ev14, hf⟩ := bsome hf
    refine cv_RX4_84 (n := 63) C dX4_undo_60 (av := []) rfl (rc_X4_lays ev14) (M_X4_lays ev14) (Nat.le_of_ble_eq_true rfl) (Nat.zero_le _) (Nat.zero_le _) (Nat.le_of_ble_eq_true rfl) rfl ?_
    refine U_aload_n (n := 64) 0 C dX4_undo_63 rfl rfl rfl ?_
    refine U_aload_n (n := 65) 0 C dX4_undo_64 rfl rfl rfl ?_
    refine gf_RX4_64 (n := 68) C dX4_undo_65 hf rfl (fun v16 hf => ?_)
    obtain ⟨v17, h18, ev17, hf⟩ := bsome2 hf
    refine cv_RX4_67 (n := 71) C dX4_undo_68 (av := [.int v16]) rfl (rc_X4_tells ev17) (M_X4_tells ev17) (Nat.le_of_ble_eq_true rfl) (Nat.zero_le _) (Nat.zero_le _) (Nat.le_of_ble_eq_true rfl) rfl ?_
    obtain ⟨hr1, hr2⟩ := Prod.mk.inj (Option.some.inj hf)
    subst hr1; subst hr2
    subst hQ
    exact U_iret C dX4_undo_71 (Nat.le_refl 0) (Nat.le_refl 0)
def f_X4_mix (o : Nat) (a1 : Int64) (h : Hp) : Option Hp :=
  (rc 4 h o).bind fun _ =>
  (fJ 4 23 h o).bind fun v1 =>
  (sF 4 23 (.long (((31 : Int64) * v1) + a1)) h o).bind fun h2 =>
  some (h2)
theorem rc_X4_mix {o : Nat} {a1 : Int64} {h : Hp} {z} (hf : f_X4_mix o a1 h = some z) : rc 4 h o = some () := by
  unfold f_X4_mix at hf
  exact (bsome hf).choose_spec.1
set_option maxHeartbeats 2000000 in
set_option maxRecDepth 20000 in
theorem M_X4_mix {g : GT} {o : Nat} {a1 : Int64} {h : Hp} {h2 : Hp} (hf : f_X4_mix o a1 h = some h2) : CM g yX4_mix cX4_mix 3 none 6 0 0 [.ref o, .long a1] h (.inr none) h2 := by
  refine CM_of rfl (fun _ => Nat.le_of_ble_eq_true rfl) (fun Γ C hn0 => ?_)
  have C : Cx g Γ cX4_mix RX4 "mix" 3 none 6 0 0 := C
  generalize hQ : Qe g Γ (.inr none) h2 0 0 = Q
  show U g Γ 3 Q 0 0 0 [(0, .ref o), (1, .long a1)] [] h
  unfold f_X4_mix at hf
  replace hf := (bsome hf).choose_spec.2
  refine U_aload_n (n := 1) 0 C dX4_mix_0 rfl rfl rfl ?_
  refine U_ldc2 (n := 4) (31 : Int64) C dX4_mix_1 ct_RX4_290 rfl ?_
  refine U_aload_n (n := 5) 0 C dX4_mix_4 rfl rfl rfl ?_
  refine gf_RX4_292 (n := 8) C dX4_mix_5 hf rfl (fun v1 hf => ?_)
  refine U_lmul (n := 9) C dX4_mix_8 rfl ?_
  refine U_lload_n (n := 10) 1 C dX4_mix_9 rfl rfl ?_
  refine U_ladd (n := 11) C dX4_mix_10 rfl ?_
  refine pf_RX4_292 (n := 14) C dX4_mix_11 hf rfl (fun h2 hf => ?_)
  have hr := (Option.some.inj hf)
  subst hr
  subst hQ
  exact U_vret C dX4_mix_14 (Nat.le_refl 0) (Nat.le_refl 0)
def l_X4_digest_32 (p0 : Nat) : Nat → Int32 → Hp → Option Hp
  | 0, _, _ => none
  | fuel + 1, x1, h =>
    if (10 : Int32) ≤ x1 then (
      some h
    ) else (
      bind2 (f_X4_counted p0 x1 h) fun v10 h11 =>
      (f_X4_mix p0 (v10).toInt64 h11).bind fun h13 =>
      l_X4_digest_32 p0 fuel (x1 + 1) h13
    )
def l_X4_digest_70 (p0 : Nat) (p1 : Int32) : Nat → Int32 → Hp → Option Hp
  | 0, _, _ => none
  | fuel + 1, x2, h =>
    if (7 : Int32) ≤ x2 then (
      some h
    ) else (
      (f_X4_value p0 p1 x2 h).bind fun v20 =>
      (f_X4_mix p0 (v20).toInt64 h).bind fun h22 =>
      l_X4_digest_70 p0 p1 fuel (x2 + 1) h22
    )
def l_X4_digest_60 (p0 : Nat) : Nat → Int32 → Hp → Option Hp
  | 0, _, _ => none
  | fuel + 1, x1, h =>
    (fI 4 9 h p0).bind fun v17 =>
    if v17 ≤ x1 then (
      some h
    ) else (
      (l_X4_digest_70 p0 x1 FU (3 : Int32) h).bind fun h23 =>
      (fR 4 16 h23 p0).bind fun v24 =>
      (aJ h23 v24 x1).bind fun v25 =>
      (f_X4_mix p0 v25 h23).bind fun h27 =>
      l_X4_digest_60 p0 fuel (x1 + 1) h27
    )
def l_X4_digest_111 (p0 : Nat) : Nat → Int32 → Hp → Option Hp
  | 0, _, _ => none
  | fuel + 1, x1, h =>
    (fI 4 11 h p0).bind fun v29 =>
    if v29 ≤ x1 then (
      some h
    ) else (
      bind2 (f_X4_relationValue p0 x1 (5 : Int32) h) fun v31 h32 =>
      (f_X4_mix p0 (v31).toInt64 h32).bind fun h34 =>
      bind2 (f_X4_relationValue p0 x1 (6 : Int32) h34) fun v35 h36 =>
      (f_X4_mix p0 (v35).toInt64 h36).bind fun h38 =>
      l_X4_digest_111 p0 fuel (x1 + 1) h38
    )
def l_X4_digest_150 (p0 : Nat) : Nat → Int32 → Hp → Option Hp
  | 0, _, _ => none
  | fuel + 1, x1, h =>
    (fR 4 0 h p0).bind fun v40 =>
    (aI h v40 (0 : Int32)).bind fun v41 =>
    if v41 ≤ x1 then (
      some h
    ) else (
      (f_X4_extreme p0 x1 h).bind fun v43 =>
      (
        if v43 = 0 then (
          some ((0 : Int64))
        ) else (
          some ((1 : Int64))
        )
      ).bind fun v45 =>
      (f_X4_mix p0 v45 h).bind fun h50 =>
      (fR 4 0 h50 p0).bind fun v51 =>
      (aI h50 v51 ((227 : Int32) + ((2 : Int32) * x1))).bind fun v52 =>
      (f_X4_mix p0 (v52).toInt64 h50).bind fun h54 =>
      (fR 4 0 h54 p0).bind fun v55 =>
      (aI h54 v55 (((227 : Int32) + ((2 : Int32) * x1)) + (1 : Int32))).bind fun v56 =>
      (f_X4_mix p0 (v56).toInt64 h54).bind fun h58 =>
      l_X4_digest_150 p0 fuel (x1 + 1) h58
    )
def f_X4_digest (o : Nat) (h : Hp) : Option (Int64 × Hp) :=
  (rc 4 h o).bind fun _ =>
  (sF 4 6 (.int (0 : Int32)) h o).bind fun h1 =>
  (sF 4 23 (.long (18398 : Int64)) h1 o).bind fun h2 =>
  (fI 4 3 h2 o).bind fun v3 =>
  (f_X4_mix o (v3).toInt64 h2).bind fun h5 =>
  (fI 4 5 h5 o).bind fun v6 =>
  (f_X4_mix o (v6).toInt64 h5).bind fun h8 =>
  (l_X4_digest_32 o FU (0 : Int32) h8).bind fun h14 =>
  (f_X4_laysReasons o h14).bind fun h16 =>
  (l_X4_digest_60 o FU (0 : Int32) h16).bind fun h28 =>
  (l_X4_digest_111 o FU (0 : Int32) h28).bind fun h39 =>
  (l_X4_digest_150 o FU (0 : Int32) h39).bind fun h59 =>
  (f_X4_wrong o h59).bind fun v60 =>
  (f_X4_mix o (v60).toInt64 h59).bind fun h62 =>
  (fJ 4 23 h62 o).bind fun v63 =>
  some ((v63, h62))
set_option maxHeartbeats 2000000 in
set_option maxRecDepth 20000 in
theorem L_X4_digest_32 {g : GT} {Γ : CT} {Q : State → Prop} {mc ms : Nat} (C : Cx g Γ cX4_digest RX4 "digest" 3 (some .long) 12 mc ms) {p0 : Nat} : ∀ {fuel : Nat} {x1 : Int32} {h : Hp} {hy : Hp}, l_X4_digest_32 p0 fuel x1 h = some hy → U g Γ 3 Q 0 0 54 [(0, .ref p0)] [] hy → U g Γ 3 Q 0 0 32 [(0, .ref p0), (1, .int x1)] [] h := by
  intro fuel
  induction fuel with
  | zero =>
    intro x1 h hy hf J0
    simp only [l_X4_digest_32, reduceCtorEq] at hf
  | succ fuel ih =>
    intro x1 h hy hf J0
    rw [l_X4_digest_32] at hf
    refine U_iload_n (n := 33) 1 C dX4_digest_32 rfl rfl ?_
    refine U_bipush (n := 35) (10 : Int32) C dX4_digest_33 kbipush_10 rfl ?_
    refine U_icge (tgt := 54) (n := 38) C dX4_digest_35 (by decide) rfl (fun c9 => ?_) (fun c9 => ?_)
    · replace hf := (if_pos c9).symm.trans hf
      have hr := Option.some.inj hf
      subst hr
      exact U_lv [0] rfl J0
    · replace hf := (if_neg c9).symm.trans hf
      refine U_aload_n (n := 39) 0 C dX4_digest_38 rfl rfl rfl ?_
      refine U_aload_n (n := 40) 0 C dX4_digest_39 rfl rfl rfl ?_
      refine U_iload_n (n := 41) 1 C dX4_digest_40 rfl rfl ?_
      obtain ⟨v10, h11, ev10, hf⟩ := bsome2 hf
      refine cv_RX4_196 (n := 44) C dX4_digest_41 (av := [.int x1]) rfl (rc_X4_counted ev10) (M_X4_counted ev10) (Nat.le_of_ble_eq_true rfl) (Nat.zero_le _) (Nat.zero_le _) (Nat.le_of_ble_eq_true rfl) rfl ?_
      refine U_i2l (n := 45) C dX4_digest_44 rfl ?_
      obtain ⟨h13, ev12, hf⟩ := bsome hf
      refine cv_RX4_298 (n := 48) C dX4_digest_45 (av := [.long (v10).toInt64]) rfl (rc_X4_mix ev12) (M_X4_mix ev12) (Nat.le_of_ble_eq_true rfl) (Nat.zero_le _) (Nat.zero_le _) (Nat.le_of_ble_eq_true rfl) rfl ?_
      refine U_iinc (n := 51) (v := (x1 + 1)) (lv2 := [(1, .int (x1 + 1)), (0, .ref p0)]) 1 C dX4_digest_48 rfl rfl (by decide) rfl rfl ?_
      refine U_goto (n := 0) (tgt := 32) C dX4_digest_51 (by decide) ?_
      exact U_lv [1, 0] rfl (ih hf J0)
set_option maxHeartbeats 2000000 in
set_option maxRecDepth 20000 in
theorem L_X4_digest_70 {g : GT} {Γ : CT} {Q : State → Prop} {mc ms : Nat} (C : Cx g Γ cX4_digest RX4 "digest" 3 (some .long) 12 mc ms) {p0 : Nat} {p1 : Int32} : ∀ {fuel : Nat} {x2 : Int32} {h : Hp} {hy : Hp}, l_X4_digest_70 p0 p1 fuel x2 h = some hy → U g Γ 3 Q 0 0 93 [(0, .ref p0), (1, .int p1)] [] hy → U g Γ 3 Q 0 0 70 [(0, .ref p0), (1, .int p1), (2, .int x2)] [] h := by
  intro fuel
  induction fuel with
  | zero =>
    intro x2 h hy hf J0
    simp only [l_X4_digest_70, reduceCtorEq] at hf
  | succ fuel ih =>
    intro x2 h hy hf J0
    rw [l_X4_digest_70] at hf
    refine U_iload_n (n := 71) 2 C dX4_digest_70 rfl rfl ?_
    refine U_bipush (n := 73) (7 : Int32) C dX4_digest_71 kbipush_7 rfl ?_
    refine U_icge (tgt := 93) (n := 76) C dX4_digest_73 (by decide) rfl (fun c19 => ?_) (fun c19 => ?_)
    · replace hf := (if_pos c19).symm.trans hf
      have hr := Option.some.inj hf
      subst hr
      exact U_lv [0, 1] rfl J0
    · replace hf := (if_neg c19).symm.trans hf
      refine U_aload_n (n := 77) 0 C dX4_digest_76 rfl rfl rfl ?_
      refine U_aload_n (n := 78) 0 C dX4_digest_77 rfl rfl rfl ?_
      refine U_iload_n (n := 79) 1 C dX4_digest_78 rfl rfl ?_
      refine U_iload_n (n := 80) 2 C dX4_digest_79 rfl rfl ?_
      obtain ⟨v20, ev20, hf⟩ := bsome hf
      refine cv_RX4_179 (n := 83) C dX4_digest_80 (av := [.int p1, .int x2]) rfl (rc_X4_value ev20) (M_X4_value ev20) (Nat.le_of_ble_eq_true rfl) (Nat.zero_le _) (Nat.zero_le _) (Nat.le_of_ble_eq_true rfl) rfl ?_
      refine U_i2l (n := 84) C dX4_digest_83 rfl ?_
      obtain ⟨h22, ev21, hf⟩ := bsome hf
      refine cv_RX4_298 (n := 87) C dX4_digest_84 (av := [.long (v20).toInt64]) rfl (rc_X4_mix ev21) (M_X4_mix ev21) (Nat.le_of_ble_eq_true rfl) (Nat.zero_le _) (Nat.zero_le _) (Nat.le_of_ble_eq_true rfl) rfl ?_
      refine U_iinc (n := 90) (v := (x2 + 1)) (lv2 := [(2, .int (x2 + 1)), (0, .ref p0), (1, .int p1)]) 2 C dX4_digest_87 rfl rfl (by decide) rfl rfl ?_
      refine U_goto (n := 0) (tgt := 70) C dX4_digest_90 (by decide) ?_
      exact U_lv [1, 2, 0] rfl (ih hf J0)
set_option maxHeartbeats 2000000 in
set_option maxRecDepth 20000 in
theorem L_X4_digest_60 {g : GT} {Γ : CT} {Q : State → Prop} {mc ms : Nat} (C : Cx g Γ cX4_digest RX4 "digest" 3 (some .long) 12 mc ms) {p0 : Nat} : ∀ {fuel : Nat} {x1 : Int32} {h : Hp} {hy : Hp}, l_X4_digest_60 p0 fuel x1 h = some hy → U g Γ 3 Q 0 0 109 [(0, .ref p0)] [] hy → U g Γ 3 Q 0 0 60 [(0, .ref p0), (1, .int x1)] [] h := by
  intro fuel
  induction fuel with
  | zero =>
    intro x1 h hy hf J0
    simp only [l_X4_digest_60, reduceCtorEq] at hf
  | succ fuel ih =>
    intro x1 h hy hf J0
    rw [l_X4_digest_60] at hf
    refine U_iload_n (n := 61) 1 C dX4_digest_60 rfl rfl ?_
    refine U_aload_n (n := 62) 0 C dX4_digest_61 rfl rfl rfl ?_
    refine gf_RX4_71 (n := 65) C dX4_digest_62 hf rfl (fun v17 hf => ?_)
    refine U_icge (tgt := 109) (n := 68) C dX4_digest_65 (by decide) rfl (fun c18 => ?_) (fun c18 => ?_)
    · replace hf := (if_pos c18).symm.trans hf
      have hr := Option.some.inj hf
      subst hr
      exact U_lv [0] rfl J0
    · replace hf := (if_neg c18).symm.trans hf
      refine U_iconst (n := 69) (3 : Int32) C dX4_digest_68 kiconst_3 rfl ?_
      refine U_istore_n (n := 70) (lv2 := [(2, .int (3 : Int32)), (0, .ref p0), (1, .int x1)]) C dX4_digest_69 (by decide) rfl rfl ?_
      refine U_join1 (fun h23 => U g Γ 3 Q 0 0 93 [(0, .ref p0), (1, .int x1)] [] h23) hf (fun h23 hf => ?_) (fun h23 hf J => U_lv [1, 2, 0] rfl (L_X4_digest_70 C hf J))
      refine U_aload_n (n := 94) 0 C dX4_digest_93 rfl rfl rfl ?_
      refine U_aload_n (n := 95) 0 C dX4_digest_94 rfl rfl rfl ?_
      refine gf_RX4_40 (n := 98) C dX4_digest_95 hf rfl (fun v24 hf => ?_)
      refine U_iload_n (n := 99) 1 C dX4_digest_98 rfl rfl ?_
      refine U_lald (n := 100) C dX4_digest_99 hf rfl (fun v25 hf => ?_)
      obtain ⟨h27, ev26, hf⟩ := bsome hf
      refine cv_RX4_298 (n := 103) C dX4_digest_100 (av := [.long v25]) rfl (rc_X4_mix ev26) (M_X4_mix ev26) (Nat.le_of_ble_eq_true rfl) (Nat.zero_le _) (Nat.zero_le _) (Nat.le_of_ble_eq_true rfl) rfl ?_
      refine U_iinc (n := 106) (v := (x1 + 1)) (lv2 := [(1, .int (x1 + 1)), (0, .ref p0)]) 1 C dX4_digest_103 rfl rfl (by decide) rfl rfl ?_
      refine U_goto (n := 0) (tgt := 60) C dX4_digest_106 (by decide) ?_
      exact U_lv [1, 0] rfl (ih hf J0)
set_option maxHeartbeats 2000000 in
set_option maxRecDepth 20000 in
theorem L_X4_digest_111 {g : GT} {Γ : CT} {Q : State → Prop} {mc ms : Nat} (C : Cx g Γ cX4_digest RX4 "digest" 3 (some .long) 12 mc ms) {p0 : Nat} : ∀ {fuel : Nat} {x1 : Int32} {h : Hp} {hy : Hp}, l_X4_digest_111 p0 fuel x1 h = some hy → U g Γ 3 Q 0 0 148 [(0, .ref p0)] [] hy → U g Γ 3 Q 0 0 111 [(0, .ref p0), (1, .int x1)] [] h := by
  intro fuel
  induction fuel with
  | zero =>
    intro x1 h hy hf J0
    simp only [l_X4_digest_111, reduceCtorEq] at hf
  | succ fuel ih =>
    intro x1 h hy hf J0
    rw [l_X4_digest_111] at hf
    refine U_iload_n (n := 112) 1 C dX4_digest_111 rfl rfl ?_
    refine U_aload_n (n := 113) 0 C dX4_digest_112 rfl rfl rfl ?_
    refine gf_RX4_74 (n := 116) C dX4_digest_113 hf rfl (fun v29 hf => ?_)
    refine U_icge (tgt := 148) (n := 119) C dX4_digest_116 (by decide) rfl (fun c30 => ?_) (fun c30 => ?_)
    · replace hf := (if_pos c30).symm.trans hf
      have hr := Option.some.inj hf
      subst hr
      exact U_lv [0] rfl J0
    · replace hf := (if_neg c30).symm.trans hf
      refine U_aload_n (n := 120) 0 C dX4_digest_119 rfl rfl rfl ?_
      refine U_aload_n (n := 121) 0 C dX4_digest_120 rfl rfl rfl ?_
      refine U_iload_n (n := 122) 1 C dX4_digest_121 rfl rfl ?_
      refine U_iconst (n := 123) (5 : Int32) C dX4_digest_122 kiconst_5 rfl ?_
      obtain ⟨v31, h32, ev31, hf⟩ := bsome2 hf
      refine cv_RX4_202 (n := 126) C dX4_digest_123 (av := [.int x1, .int (5 : Int32)]) rfl (rc_X4_relationValue ev31) (M_X4_relationValue ev31) (Nat.le_of_ble_eq_true rfl) (Nat.zero_le _) (Nat.zero_le _) (Nat.le_of_ble_eq_true rfl) rfl ?_
      refine U_i2l (n := 127) C dX4_digest_126 rfl ?_
      obtain ⟨h34, ev33, hf⟩ := bsome hf
      refine cv_RX4_298 (n := 130) C dX4_digest_127 (av := [.long (v31).toInt64]) rfl (rc_X4_mix ev33) (M_X4_mix ev33) (Nat.le_of_ble_eq_true rfl) (Nat.zero_le _) (Nat.zero_le _) (Nat.le_of_ble_eq_true rfl) rfl ?_
      refine U_aload_n (n := 131) 0 C dX4_digest_130 rfl rfl rfl ?_
      refine U_aload_n (n := 132) 0 C dX4_digest_131 rfl rfl rfl ?_
      refine U_iload_n (n := 133) 1 C dX4_digest_132 rfl rfl ?_
      refine U_bipush (n := 135) (6 : Int32) C dX4_digest_133 kbipush_6 rfl ?_
      obtain ⟨v35, h36, ev35, hf⟩ := bsome2 hf
      refine cv_RX4_202 (n := 138) C dX4_digest_135 (av := [.int x1, .int (6 : Int32)]) rfl (rc_X4_relationValue ev35) (M_X4_relationValue ev35) (Nat.le_of_ble_eq_true rfl) (Nat.zero_le _) (Nat.zero_le _) (Nat.le_of_ble_eq_true rfl) rfl ?_
      refine U_i2l (n := 139) C dX4_digest_138 rfl ?_
      obtain ⟨h38, ev37, hf⟩ := bsome hf
      refine cv_RX4_298 (n := 142) C dX4_digest_139 (av := [.long (v35).toInt64]) rfl (rc_X4_mix ev37) (M_X4_mix ev37) (Nat.le_of_ble_eq_true rfl) (Nat.zero_le _) (Nat.zero_le _) (Nat.le_of_ble_eq_true rfl) rfl ?_
      refine U_iinc (n := 145) (v := (x1 + 1)) (lv2 := [(1, .int (x1 + 1)), (0, .ref p0)]) 1 C dX4_digest_142 rfl rfl (by decide) rfl rfl ?_
      refine U_goto (n := 0) (tgt := 111) C dX4_digest_145 (by decide) ?_
      exact U_lv [1, 0] rfl (ih hf J0)
set_option maxHeartbeats 2000000 in
set_option maxRecDepth 20000 in
theorem L_X4_digest_150 {g : GT} {Γ : CT} {Q : State → Prop} {mc ms : Nat} (C : Cx g Γ cX4_digest RX4 "digest" 3 (some .long) 12 mc ms) {p0 : Nat} : ∀ {fuel : Nat} {x1 : Int32} {h : Hp} {hy : Hp}, l_X4_digest_150 p0 fuel x1 h = some hy → U g Γ 3 Q 0 0 219 [(0, .ref p0)] [] hy → U g Γ 3 Q 0 0 150 [(0, .ref p0), (1, .int x1)] [] h := by
  intro fuel
  induction fuel with
  | zero =>
    intro x1 h hy hf J0
    simp only [l_X4_digest_150, reduceCtorEq] at hf
  | succ fuel ih =>
    intro x1 h hy hf J0
    rw [l_X4_digest_150] at hf
    refine U_iload_n (n := 151) 1 C dX4_digest_150 rfl rfl ?_
    refine U_aload_n (n := 152) 0 C dX4_digest_151 rfl rfl rfl ?_
    refine gf_RX4_7 (n := 155) C dX4_digest_152 hf rfl (fun v40 hf => ?_)
    refine U_iconst (n := 156) (0 : Int32) C dX4_digest_155 kiconst_0 rfl ?_
    refine U_iald (n := 157) C dX4_digest_156 hf rfl (fun v41 hf => ?_)
    refine U_icge (tgt := 219) (n := 160) C dX4_digest_157 (by decide) rfl (fun c42 => ?_) (fun c42 => ?_)
    · replace hf := (if_pos c42).symm.trans hf
      have hr := Option.some.inj hf
      subst hr
      exact U_lv [0] rfl J0
    · replace hf := (if_neg c42).symm.trans hf
      refine U_aload_n (n := 161) 0 C dX4_digest_160 rfl rfl rfl ?_
      refine U_aload_n (n := 162) 0 C dX4_digest_161 rfl rfl rfl ?_
      refine U_iload_n (n := 163) 1 C dX4_digest_162 rfl rfl ?_
      obtain ⟨v43, ev43, hf⟩ := bsome hf
      refine cv_RX4_205 (n := 166) C dX4_digest_163 (av := [.int x1]) rfl (rc_X4_extreme ev43) (M_X4_extreme ev43) (Nat.le_of_ble_eq_true rfl) (Nat.zero_le _) (Nat.zero_le _) (Nat.le_of_ble_eq_true rfl) rfl ?_
      refine U_join1 (fun v45 => U g Γ 3 Q 0 0 174 [(0, .ref p0), (1, .int x1)] [.long v45, .ref p0] h) hf (fun v45 hf => ?_) (fun v45 hf J47 => ?_)
      · skip
        obtain ⟨h50, ev49, hf⟩ := bsome hf
        refine cv_RX4_298 (n := 177) C dX4_digest_174 (av := [.long v45]) rfl (rc_X4_mix ev49) (M_X4_mix ev49) (Nat.le_of_ble_eq_true rfl) (Nat.zero_le _) (Nat.zero_le _) (Nat.le_of_ble_eq_true rfl) rfl ?_
        refine U_aload_n (n := 178) 0 C dX4_digest_177 rfl rfl rfl ?_
        refine U_aload_n (n := 179) 0 C dX4_digest_178 rfl rfl rfl ?_
        refine gf_RX4_7 (n := 182) C dX4_digest_179 hf rfl (fun v51 hf => ?_)
        refine U_sipush (n := 185) (227 : Int32) C dX4_digest_182 ksipush_227 rfl ?_
        refine U_iconst (n := 186) (2 : Int32) C dX4_digest_185 kiconst_2 rfl ?_
        refine U_iload_n (n := 187) 1 C dX4_digest_186 rfl rfl ?_
        refine U_imul (n := 188) C dX4_digest_187 rfl ?_
        refine U_iadd (n := 189) C dX4_digest_188 rfl ?_
        refine U_iald (n := 190) C dX4_digest_189 hf rfl (fun v52 hf => ?_)
        refine U_i2l (n := 191) C dX4_digest_190 rfl ?_
        obtain ⟨h54, ev53, hf⟩ := bsome hf
        refine cv_RX4_298 (n := 194) C dX4_digest_191 (av := [.long (v52).toInt64]) rfl (rc_X4_mix ev53) (M_X4_mix ev53) (Nat.le_of_ble_eq_true rfl) (Nat.zero_le _) (Nat.zero_le _) (Nat.le_of_ble_eq_true rfl) rfl ?_
        refine U_aload_n (n := 195) 0 C dX4_digest_194 rfl rfl rfl ?_
        refine U_aload_n (n := 196) 0 C dX4_digest_195 rfl rfl rfl ?_
        refine gf_RX4_7 (n := 199) C dX4_digest_196 hf rfl (fun v55 hf => ?_)
        refine U_sipush (n := 202) (227 : Int32) C dX4_digest_199 ksipush_227 rfl ?_
        refine U_iconst (n := 203) (2 : Int32) C dX4_digest_202 kiconst_2 rfl ?_
        refine U_iload_n (n := 204) 1 C dX4_digest_203 rfl rfl ?_
        refine U_imul (n := 205) C dX4_digest_204 rfl ?_
        refine U_iadd (n := 206) C dX4_digest_205 rfl ?_
        refine U_iconst (n := 207) (1 : Int32) C dX4_digest_206 kiconst_1 rfl ?_
        refine U_iadd (n := 208) C dX4_digest_207 rfl ?_
        refine U_iald (n := 209) C dX4_digest_208 hf rfl (fun v56 hf => ?_)
        refine U_i2l (n := 210) C dX4_digest_209 rfl ?_
        obtain ⟨h58, ev57, hf⟩ := bsome hf
        refine cv_RX4_298 (n := 213) C dX4_digest_210 (av := [.long (v56).toInt64]) rfl (rc_X4_mix ev57) (M_X4_mix ev57) (Nat.le_of_ble_eq_true rfl) (Nat.zero_le _) (Nat.zero_le _) (Nat.le_of_ble_eq_true rfl) rfl ?_
        refine U_iinc (n := 216) (v := (x1 + 1)) (lv2 := [(1, .int (x1 + 1)), (0, .ref p0)]) 1 C dX4_digest_213 rfl rfl (by decide) rfl rfl ?_
        refine U_goto (n := 0) (tgt := 150) C dX4_digest_216 (by decide) ?_
        exact U_lv [1, 0] rfl (ih hf J0)
      · skip
        refine U_ifeq (tgt := 173) (n := 169) C dX4_digest_166 (by decide) rfl (fun c44 => ?_) (fun c44 => ?_)
        · replace hf := (if_pos c44).symm.trans hf
          refine U_lconst (n := 174) (0 : Int64) C dX4_digest_173 klconst_0 rfl ?_
          have hr := Option.some.inj hf
          subst hr
          exact U_lv [0, 1] rfl J47
        · replace hf := (if_neg c44).symm.trans hf
          refine U_lconst (n := 170) (1 : Int64) C dX4_digest_169 klconst_1 rfl ?_
          refine U_goto (n := 0) (tgt := 174) C dX4_digest_170 (by decide) ?_
          have hr := Option.some.inj hf
          subst hr
          exact U_lv [0, 1] rfl J47
theorem rc_X4_digest {o : Nat} {h : Hp} {z} (hf : f_X4_digest o h = some z) : rc 4 h o = some () := by
  unfold f_X4_digest at hf
  exact (bsome hf).choose_spec.1
set_option maxHeartbeats 2000000 in
set_option maxRecDepth 20000 in
theorem M_X4_digest {g : GT} {o : Nat} {h : Hp} {r : Int64} {h2 : Hp} (hf : f_X4_digest o h = some (r, h2)) : CM g yX4_digest cX4_digest 3 (some .long) 12 0 0 [.ref o] h (.inr (some (.long r))) h2 := by
  refine CM_of rfl (fun _ => Nat.le_of_ble_eq_true rfl) (fun Γ C hn0 => ?_)
  have C : Cx g Γ cX4_digest RX4 "digest" 3 (some .long) 12 0 0 := C
  generalize hQ : Qe g Γ (.inr (some (.long r))) h2 0 0 = Q
  show U g Γ 3 Q 0 0 0 [(0, .ref o)] [] h
  unfold f_X4_digest at hf
  replace hf := (bsome hf).choose_spec.2
  refine U_aload_n (n := 1) 0 C dX4_digest_0 rfl rfl rfl ?_
  refine U_iconst (n := 2) (0 : Int32) C dX4_digest_1 kiconst_0 rfl ?_
  refine pf_RX4_60 (n := 5) C dX4_digest_2 hf rfl (fun h1 hf => ?_)
  refine U_aload_n (n := 6) 0 C dX4_digest_5 rfl rfl rfl ?_
  refine U_ldc2 (n := 9) (18398 : Int64) C dX4_digest_6 ct_RX4_296 rfl ?_
  refine pf_RX4_292 (n := 12) C dX4_digest_9 hf rfl (fun h2 hf => ?_)
  refine U_aload_n (n := 13) 0 C dX4_digest_12 rfl rfl rfl ?_
  refine U_aload_n (n := 14) 0 C dX4_digest_13 rfl rfl rfl ?_
  refine gf_RX4_64 (n := 17) C dX4_digest_14 hf rfl (fun v3 hf => ?_)
  refine U_i2l (n := 18) C dX4_digest_17 rfl ?_
  obtain ⟨h5, ev4, hf⟩ := bsome hf
  refine cv_RX4_298 (n := 21) C dX4_digest_18 (av := [.long (v3).toInt64]) rfl (rc_X4_mix ev4) (M_X4_mix ev4) (Nat.le_of_ble_eq_true rfl) (Nat.zero_le _) (Nat.zero_le _) (Nat.le_of_ble_eq_true rfl) rfl ?_
  refine U_aload_n (n := 22) 0 C dX4_digest_21 rfl rfl rfl ?_
  refine U_aload_n (n := 23) 0 C dX4_digest_22 rfl rfl rfl ?_
  refine gf_RX4_237 (n := 26) C dX4_digest_23 hf rfl (fun v6 hf => ?_)
  refine U_i2l (n := 27) C dX4_digest_26 rfl ?_
  obtain ⟨h8, ev7, hf⟩ := bsome hf
  refine cv_RX4_298 (n := 30) C dX4_digest_27 (av := [.long (v6).toInt64]) rfl (rc_X4_mix ev7) (M_X4_mix ev7) (Nat.le_of_ble_eq_true rfl) (Nat.zero_le _) (Nat.zero_le _) (Nat.le_of_ble_eq_true rfl) rfl ?_
  refine U_iconst (n := 31) (0 : Int32) C dX4_digest_30 kiconst_0 rfl ?_
  refine U_istore_n (n := 32) (lv2 := [(1, .int (0 : Int32)), (0, .ref o)]) C dX4_digest_31 (by decide) rfl rfl ?_
  refine U_join1 (fun h14 => U g Γ 3 Q 0 0 54 [(0, .ref o)] [] h14) hf (fun h14 hf => ?_) (fun h14 hf J => U_lv [1, 0] rfl (L_X4_digest_32 C hf J))
  refine U_aload_n (n := 55) 0 C dX4_digest_54 rfl rfl rfl ?_
  obtain ⟨h16, ev15, hf⟩ := bsome hf
  refine cv_RX4_186 (n := 58) C dX4_digest_55 (av := []) rfl (rc_X4_laysReasons ev15) (M_X4_laysReasons ev15) (Nat.le_of_ble_eq_true rfl) (Nat.zero_le _) (Nat.zero_le _) (Nat.le_of_ble_eq_true rfl) rfl ?_
  refine U_iconst (n := 59) (0 : Int32) C dX4_digest_58 kiconst_0 rfl ?_
  refine U_istore_n (n := 60) (lv2 := [(1, .int (0 : Int32)), (0, .ref o)]) C dX4_digest_59 (by decide) rfl rfl ?_
  refine U_join1 (fun h28 => U g Γ 3 Q 0 0 109 [(0, .ref o)] [] h28) hf (fun h28 hf => ?_) (fun h28 hf J => U_lv [1, 0] rfl (L_X4_digest_60 C hf J))
  refine U_iconst (n := 110) (0 : Int32) C dX4_digest_109 kiconst_0 rfl ?_
  refine U_istore_n (n := 111) (lv2 := [(1, .int (0 : Int32)), (0, .ref o)]) C dX4_digest_110 (by decide) rfl rfl ?_
  refine U_join1 (fun h39 => U g Γ 3 Q 0 0 148 [(0, .ref o)] [] h39) hf (fun h39 hf => ?_) (fun h39 hf J => U_lv [1, 0] rfl (L_X4_digest_111 C hf J))
  refine U_iconst (n := 149) (0 : Int32) C dX4_digest_148 kiconst_0 rfl ?_
  refine U_istore_n (n := 150) (lv2 := [(1, .int (0 : Int32)), (0, .ref o)]) C dX4_digest_149 (by decide) rfl rfl ?_
  refine U_join1 (fun h59 => U g Γ 3 Q 0 0 219 [(0, .ref o)] [] h59) hf (fun h59 hf => ?_) (fun h59 hf J => U_lv [1, 0] rfl (L_X4_digest_150 C hf J))
  refine U_aload_n (n := 220) 0 C dX4_digest_219 rfl rfl rfl ?_
  refine U_aload_n (n := 221) 0 C dX4_digest_220 rfl rfl rfl ?_
  obtain ⟨v60, ev60, hf⟩ := bsome hf
  refine cv_RX4_223 (n := 224) C dX4_digest_221 (av := []) rfl (rc_X4_wrong ev60) (M_X4_wrong ev60) (Nat.le_of_ble_eq_true rfl) (Nat.zero_le _) (Nat.zero_le _) (Nat.le_of_ble_eq_true rfl) rfl ?_
  refine U_i2l (n := 225) C dX4_digest_224 rfl ?_
  obtain ⟨h62, ev61, hf⟩ := bsome hf
  refine cv_RX4_298 (n := 228) C dX4_digest_225 (av := [.long (v60).toInt64]) rfl (rc_X4_mix ev61) (M_X4_mix ev61) (Nat.le_of_ble_eq_true rfl) (Nat.zero_le _) (Nat.zero_le _) (Nat.le_of_ble_eq_true rfl) rfl ?_
  refine U_aload_n (n := 229) 0 C dX4_digest_228 rfl rfl rfl ?_
  refine gf_RX4_292 (n := 232) C dX4_digest_229 hf rfl (fun v63 hf => ?_)
  obtain ⟨hr1, hr2⟩ := Prod.mk.inj (Option.some.inj hf)
  subst hr1; subst hr2
  subst hQ
  exact U_lret C dX4_digest_232 (Nat.le_refl 0) (Nat.le_refl 0)
