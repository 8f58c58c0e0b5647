def l_X3_isListed_2 (p0 : Nat) (p1 : Int32) (p2 : Int32) (h : Hp) : Nat → Int32 → Option (Unit ⊕ Int32)
  | 0, _ => none
  | fuel + 1, x3 =>
    if p2 ≤ x3 then (
      some (.inl ())
    ) else (
      if (28 : Int32) ≤ x3 then (
        some (.inl ())
      ) else (
        (fR 3 7 h p0).bind fun v3 =>
        (aI h v3 x3).bind fun v4 =>
        if v4 = p1 then (
          some (.inr ((1 : Int32)))
        ) else (
          l_X3_isListed_2 p0 p1 p2 h fuel (x3 + 1)
        )
      )
    )
def f_X3_isListed (o : Nat) (a1 : Int32) (a2 : Int32) (h : Hp) : Option Int32 :=
  (rc 3 h o).bind fun _ =>
  bindR0 (l_X3_isListed_2 o a1 a2 h FU (0 : Int32)) fun _ =>
  some ((0 : Int32))
set_option maxHeartbeats 2000000 in
set_option maxRecDepth 20000 in
theorem L_X3_isListed_2 {g : GT} {Γ : CT} {Q : State → Prop} {mc ms : Nat} (C : Cx g Γ cX3_isListed RX3 "isListed" 4 (some .boolean) 6 mc ms) {p0 : Nat} {p1 : Int32} {p2 : Int32} {h : Hp} : ∀ {fuel : Nat} {x3 : Int32} {out : (Unit ⊕ Int32)}, l_X3_isListed_2 p0 p1 p2 h fuel x3 = some out → (out = .inl () → U g Γ 4 Q 0 0 31 [] [] h) → (∀ r, out = .inr r → Qe g Γ (.inr (some (.int r))) h 0 0 = Q) → U g Γ 4 Q 0 0 2 [(0, .ref p0), (1, .int p1), (2, .int p2), (3, .int x3)] [] h := by
  intro fuel
  induction fuel with
  | zero =>
    intro x3 out hf J0 R0
    simp only [l_X3_isListed_2, reduceCtorEq] at hf
  | succ fuel ih =>
    intro x3 out hf J0 R0
    rw [l_X3_isListed_2] at hf
    refine U_iload_n (n := 3) 3 C dX3_isListed_2 rfl rfl ?_
    refine U_iload_n (n := 4) 2 C dX3_isListed_3 rfl rfl ?_
    refine U_icge (tgt := 31) (n := 7) C dX3_isListed_4 (by decide) rfl (fun c1 => ?_) (fun c1 => ?_)
    · replace hf := (if_pos c1).symm.trans hf
      have hr := Option.some.inj hf
      subst hr
      exact U_lv [] rfl (J0 rfl)
    · replace hf := (if_neg c1).symm.trans hf
      refine U_iload_n (n := 8) 3 C dX3_isListed_7 rfl rfl ?_
      refine U_bipush (n := 10) (28 : Int32) C dX3_isListed_8 kbipush_28 rfl ?_
      refine U_icge (tgt := 31) (n := 13) C dX3_isListed_10 (by decide) rfl (fun c2 => ?_) (fun c2 => ?_)
      · replace hf := (if_pos c2).symm.trans hf
        have hr := Option.some.inj hf
        subst hr
        exact U_lv [] rfl (J0 rfl)
      · replace hf := (if_neg c2).symm.trans hf
        refine U_aload_n (n := 14) 0 C dX3_isListed_13 rfl rfl rfl ?_
        refine gf_RX3_45 (n := 17) C dX3_isListed_14 hf rfl (fun v3 hf => ?_)
        refine U_iload_n (n := 18) 3 C dX3_isListed_17 rfl rfl ?_
        refine U_iald (n := 19) C dX3_isListed_18 hf rfl (fun v4 hf => ?_)
        refine U_iload_n (n := 20) 1 C dX3_isListed_19 rfl rfl ?_
        refine U_icne (tgt := 25) (n := 23) C dX3_isListed_20 (by decide) rfl (fun c5 => ?_) (fun c5 => ?_)
        · replace hf := (if_pos c5).symm.trans hf
          refine U_iconst (n := 24) (1 : Int32) C dX3_isListed_23 kiconst_1 rfl ?_
          have hr := Option.some.inj hf
          subst hr
          have hQ := R0 _ rfl
          subst hQ
          exact U_zret C dX3_isListed_24 (Or.inr rfl) (Nat.le_refl 0) (Nat.le_refl 0)
        · replace hf := (if_neg c5).symm.trans hf
          refine U_iinc (n := 28) (v := (x3 + 1)) (lv2 := [(3, .int (x3 + 1)), (0, .ref p0), (1, .int p1), (2, .int p2)]) 3 C dX3_isListed_25 rfl rfl (by decide) rfl rfl ?_
          refine U_goto (n := 0) (tgt := 2) C dX3_isListed_28 (by decide) ?_
          exact U_lv [1, 2, 3, 0] rfl (ih hf J0 R0)
theorem rc_X3_isListed {o : Nat} {a1 : Int32} {a2 : Int32} {h : Hp} {z} (hf : f_X3_isListed o a1 a2 h = some z) : rc 3 h o = some () := by
  unfold f_X3_isListed at hf
  exact (bsome hf).choose_spec.1
set_option maxHeartbeats 2000000 in
set_option maxRecDepth 20000 in
theorem M_X3_isListed {g : GT} {o : Nat} {a1 : Int32} {a2 : Int32} {h : Hp} {r : Int32} (hf : f_X3_isListed o a1 a2 h = some r) : CM g yX3_isListed cX3_isListed 4 (some .boolean) 6 0 0 [.ref o, .int a1, .int a2] h (.inr (some (.int r))) h := by
  refine CM_of rfl (fun _ => Nat.le_of_ble_eq_true rfl) (fun Γ C hn0 => ?_)
  have C : Cx g Γ cX3_isListed RX3 "isListed" 4 (some .boolean) 6 0 0 := C
  generalize hQ : Qe g Γ (.inr (some (.int r))) h 0 0 = Q
  show U g Γ 4 Q 0 0 0 [(0, .ref o), (1, .int a1), (2, .int a2)] [] h
  unfold f_X3_isListed at hf
  replace hf := (bsome hf).choose_spec.2
  refine U_iconst (n := 1) (0 : Int32) C dX3_isListed_0 kiconst_0 rfl ?_
  refine U_istore_n (n := 2) (lv2 := [(3, .int (0 : Int32)), (0, .ref o), (1, .int a1), (2, .int a2)]) C dX3_isListed_1 (by decide) rfl rfl ?_
  refine U_joinR0 (U g Γ 4 Q 0 0 31 [] [] h) hf (fun hf => ?_) (fun o8 hf J6 R7 => U_lv [1, 2, 3, 0] rfl (L_X3_isListed_2 C hf J6 ?_))
  rotate_left
  · intro r hr
    have hr := (R7 r hr)
    subst hr
    exact hQ
  refine U_iconst (n := 32) (0 : Int32) C dX3_isListed_31 kiconst_0 rfl ?_
  have hr := (Option.some.inj hf)
  subst hr
  subst hQ
  exact U_zret C dX3_isListed_32 (Or.inl rfl) (Nat.le_refl 0) (Nat.le_refl 0)
def l_X3_lines_47 (p0 : Nat) (p2 : Int32) : Nat → Int32 → Int32 → Hp → Option (Int32 × Hp)
  | 0, _, _, _ => none
  | fuel + 1, x1, x3, h =>
    (fR 3 0 h p0).bind fun v9 =>
    (fI 0 0 h v9).bind fun v10 =>
    if v10 ≤ x3 then (
      some ((x1, h))
    ) else (
      (f_X3_lineMask p0 p2 x3 h).bind fun v12 =>
      (f_X3_isListed p0 v12 x1 h).bind fun v13 =>
      bind2 (
        if v13 = 0 then (
          if (28 : Int32) ≤ x1 then (
            some ((x1, h))
          ) else (
            (fR 3 7 h p0).bind fun v21 =>
            (wI h v21 x1 v12).bind fun h22 =>
            some (((x1 + 1), h22))
          )
        ) else (
          some ((x1, h))
        )
      ) fun v15 h16 =>
      l_X3_lines_47 p0 p2 fuel v15 (x3 + 1) h16
    )
def l_X3_lines_32 (p0 : Nat) : Nat → Int32 → Int32 → Hp → Option (Int32 × Hp)
  | 0, _, _, _ => none
  | fuel + 1, x1, x2, h =>
    (fR 3 0 h p0).bind fun v6 =>
    (fI 0 0 h v6).bind fun v7 =>
    if v7 ≤ x2 then (
      some ((x1, h))
    ) else (
      bind2 (l_X3_lines_47 p0 x2 FU x1 (x2 + (1 : Int32)) h) fun v23 h24 =>
      l_X3_lines_32 p0 fuel v23 (x2 + 1) h24
    )
def f_X3_lines (o : Nat) (h : Hp) : Option ((Nat ⊕ Int32) × Hp) :=
  (rc 3 h o).bind fun _ =>
  (fR 3 1 h o).bind fun v1 =>
  (fR 3 0 h o).bind fun v2 =>
  (fI 0 1 h v2).bind fun v3 =>
  (f_X2_countKind v1 (0 : Int32) v3 h).bind fun v4 =>
  if v4 ≤ 0 then (
    bind2 (l_X3_lines_32 o FU (0 : Int32) (0 : Int32) h) fun v25 h26 =>
    some ((.inr v25, h26))
  ) else (
    some ((.inl 2, h))
  )
set_option maxHeartbeats 2000000 in
set_option maxRecDepth 20000 in
theorem L_X3_lines_47 {g : GT} {Γ : CT} {Q : State → Prop} {mc ms : Nat} (C : Cx g Γ cX3_lines RX3 "lines" 5 (some .int) 10 mc ms) {p0 : Nat} {p2 : Int32} : ∀ {fuel : Nat} {x1 : Int32} {x3 : Int32} {h : Hp} {y1 : Int32} {hy : Hp}, l_X3_lines_47 p0 p2 fuel x1 x3 h = some (y1, hy) → U g Γ 5 Q 0 0 99 [(0, .ref p0), (1, .int y1), (2, .int p2)] [] hy → U g Γ 5 Q 0 0 47 [(0, .ref p0), (1, .int x1), (2, .int p2), (3, .int x3)] [] h := by
  intro fuel
  induction fuel with
  | zero =>
    intro x1 x3 h y1 hy hf J0
    simp only [l_X3_lines_47, reduceCtorEq] at hf
  | succ fuel ih =>
    intro x1 x3 h y1 hy hf J0
    rw [l_X3_lines_47] at hf
    refine U_iload_n (n := 48) 3 C dX3_lines_47 rfl rfl ?_
    refine U_aload_n (n := 49) 0 C dX3_lines_48 rfl rfl rfl ?_
    refine gf_RX3_10 (n := 52) C dX3_lines_49 hf rfl (fun v9 hf => ?_)
    refine gf_RX3_163 (n := 55) C dX3_lines_52 hf rfl (fun v10 hf => ?_)
    refine U_icge (tgt := 99) (n := 58) C dX3_lines_55 (by decide) rfl (fun c11 => ?_) (fun c11 => ?_)
    · replace hf := (if_pos c11).symm.trans hf
      obtain ⟨hr0, hs0⟩ := Prod.mk.inj (Option.some.inj hf)
      subst hr0
      subst hs0
      exact U_lv [0, 1, 2] rfl J0
    · replace hf := (if_neg c11).symm.trans hf
      refine U_aload_n (n := 59) 0 C dX3_lines_58 rfl rfl rfl ?_
      refine U_iload_n (n := 60) 2 C dX3_lines_59 rfl rfl ?_
      refine U_iload_n (n := 61) 3 C dX3_lines_60 rfl rfl ?_
      obtain ⟨v12, ev12, hf⟩ := bsome hf
      refine cv_RX3_208 (n := 64) C dX3_lines_61 (av := [.int p2, .int x3]) rfl (rc_X3_lineMask ev12) (M_X3_lineMask ev12) (Nat.le_of_ble_eq_true rfl) (Nat.zero_le _) (Nat.zero_le _) (Nat.le_of_ble_eq_true rfl) rfl ?_
      refine U_istore (n := 66) (lv2 := [(4, .int v12), (0, .ref p0), (1, .int x1), (2, .int p2), (3, .int x3)]) C dX3_lines_64 (by decide) rfl rfl ?_
      refine U_aload_n (n := 67) 1 C dX3_lines_66 rfl rfl rfl ?_
      refine U_iload (n := 69) 0 C dX3_lines_67 rfl rfl ?_
      refine U_iload_n (n := 70) 2 C dX3_lines_69 rfl rfl ?_
      obtain ⟨v13, ev13, hf⟩ := bsome hf
      refine cv_RX3_211 (n := 73) C dX3_lines_70 (av := [.int v12, .int x1]) rfl (rc_X3_isListed ev13) (M_X3_isListed ev13) (Nat.le_of_ble_eq_true rfl) (Nat.zero_le _) (Nat.zero_le _) (Nat.le_of_ble_eq_true rfl) rfl ?_
      refine U_join2 (fun v15 h16 => U g Γ 5 Q 0 0 93 [(0, .ref p0), (1, .int v15), (2, .int p2), (3, .int x3)] [] h16) hf (fun v15 h16 hf => ?_) (fun v15 h16 hf J18 => ?_)
      · skip
        refine U_iinc (n := 96) (v := (x3 + 1)) (lv2 := [(3, .int (x3 + 1)), (0, .ref p0), (1, .int v15), (2, .int p2)]) 3 C dX3_lines_93 rfl rfl (by decide) rfl rfl ?_
        refine U_goto (n := 0) (tgt := 47) C dX3_lines_96 (by decide) ?_
        exact U_lv [1, 2, 3, 0] rfl (ih hf J0)
      · skip
        refine U_ifne (tgt := 93) (n := 76) C dX3_lines_73 (by decide) rfl (fun c14 => ?_) (fun c14 => ?_)
        · replace hf := (if_pos c14).symm.trans hf
          refine U_iload_n (n := 77) 2 C dX3_lines_76 rfl rfl ?_
          refine U_bipush (n := 79) (28 : Int32) C dX3_lines_77 kbipush_28 rfl ?_
          refine U_icge (tgt := 93) (n := 82) C dX3_lines_79 (by decide) rfl (fun c20 => ?_) (fun c20 => ?_)
          · replace hf := (if_pos c20).symm.trans hf
            obtain ⟨hr0, hs0⟩ := Prod.mk.inj (Option.some.inj hf)
            subst hr0
            subst hs0
            exact U_lv [1, 2, 3, 4] rfl J18
          · replace hf := (if_neg c20).symm.trans hf
            refine U_aload_n (n := 83) 1 C dX3_lines_82 rfl rfl rfl ?_
            refine gf_RX3_45 (n := 86) C dX3_lines_83 hf rfl (fun v21 hf => ?_)
            refine U_iload_n (n := 87) 2 C dX3_lines_86 rfl rfl ?_
            refine U_iload (n := 89) 0 C dX3_lines_87 rfl rfl ?_
            refine U_iast (n := 90) C dX3_lines_89 hf rfl (fun h22 hf => ?_)
            refine U_iinc (n := 93) (v := (x1 + 1)) (lv2 := [(1, .int (x1 + 1)), (4, .int v12), (0, .ref p0), (2, .int p2), (3, .int x3)]) 2 C dX3_lines_90 rfl rfl (by decide) rfl rfl ?_
            obtain ⟨hr0, hs0⟩ := Prod.mk.inj (Option.some.inj hf)
            subst hr0
            subst hs0
            exact U_lv [2, 0, 3, 4] rfl J18
        · replace hf := (if_neg c14).symm.trans hf
          obtain ⟨hr0, hs0⟩ := Prod.mk.inj (Option.some.inj hf)
          subst hr0
          subst hs0
          exact U_lv [1, 2, 3, 4] rfl J18
set_option maxHeartbeats 2000000 in
set_option maxRecDepth 20000 in
theorem L_X3_lines_32 {g : GT} {Γ : CT} {Q : State → Prop} {mc ms : Nat} (C : Cx g Γ cX3_lines RX3 "lines" 5 (some .int) 10 mc ms) {p0 : Nat} : ∀ {fuel : Nat} {x1 : Int32} {x2 : Int32} {h : Hp} {y1 : Int32} {hy : Hp}, l_X3_lines_32 p0 fuel x1 x2 h = some (y1, hy) → U g Γ 5 Q 0 0 105 [(1, .int y1)] [] hy → U g Γ 5 Q 0 0 32 [(0, .ref p0), (1, .int x1), (2, .int x2)] [] h := by
  intro fuel
  induction fuel with
  | zero =>
    intro x1 x2 h y1 hy hf J0
    simp only [l_X3_lines_32, reduceCtorEq] at hf
  | succ fuel ih =>
    intro x1 x2 h y1 hy hf J0
    rw [l_X3_lines_32] at hf
    refine U_iload_n (n := 33) 2 C dX3_lines_32 rfl rfl ?_
    refine U_aload_n (n := 34) 0 C dX3_lines_33 rfl rfl rfl ?_
    refine gf_RX3_10 (n := 37) C dX3_lines_34 hf rfl (fun v6 hf => ?_)
    refine gf_RX3_163 (n := 40) C dX3_lines_37 hf rfl (fun v7 hf => ?_)
    refine U_icge (tgt := 105) (n := 43) C dX3_lines_40 (by decide) rfl (fun c8 => ?_) (fun c8 => ?_)
    · replace hf := (if_pos c8).symm.trans hf
      obtain ⟨hr0, hs0⟩ := Prod.mk.inj (Option.some.inj hf)
      subst hr0
      subst hs0
      exact U_lv [1] rfl J0
    · replace hf := (if_neg c8).symm.trans hf
      refine U_iload_n (n := 44) 2 C dX3_lines_43 rfl rfl ?_
      refine U_iconst (n := 45) (1 : Int32) C dX3_lines_44 kiconst_1 rfl ?_
      refine U_iadd (n := 46) C dX3_lines_45 rfl ?_
      refine U_istore_n (n := 47) (lv2 := [(3, .int (x2 + (1 : Int32))), (0, .ref p0), (1, .int x1), (2, .int x2)]) C dX3_lines_46 (by decide) rfl rfl ?_
      refine U_join2 (fun v23 h24 => U g Γ 5 Q 0 0 99 [(0, .ref p0), (1, .int v23), (2, .int x2)] [] h24) hf (fun v23 h24 hf => ?_) (fun v23 h24 hf J => U_lv [1, 2, 3, 0] rfl (L_X3_lines_47 C hf J))
      refine U_iinc (n := 102) (v := (x2 + 1)) (lv2 := [(2, .int (x2 + 1)), (0, .ref p0), (1, .int v23)]) 2 C dX3_lines_99 rfl rfl (by decide) rfl rfl ?_
      refine U_goto (n := 0) (tgt := 32) C dX3_lines_102 (by decide) ?_
      exact U_lv [1, 2, 0] rfl (ih hf J0)
theorem rc_X3_lines {o : Nat} {h : Hp} {z} (hf : f_X3_lines o h = some z) : rc 3 h o = some () := by
  unfold f_X3_lines at hf
  exact (bsome hf).choose_spec.1
set_option maxHeartbeats 2000000 in
set_option maxRecDepth 20000 in
theorem M_X3_lines {g : GT} {o : Nat} {h : Hp} {r : (Nat ⊕ Int32)} {h2 : Hp} (hf : f_X3_lines o h = some (r, h2)) : CM g yX3_lines cX3_lines 5 (some .int) 10 0 0 [.ref o] h (rI r) h2 := by
  refine CM_of rfl (fun _ => Nat.le_of_ble_eq_true rfl) (fun Γ C hn0 => ?_)
  have C : Cx g Γ cX3_lines RX3 "lines" 5 (some .int) 10 (0 + er (rI r)) (0 + 6 * er (rI r)) := C
  generalize hQ : Qe g Γ (rI r) h2 0 0 = Q
  show U g Γ 5 Q 0 0 0 [(0, .ref o)] [] h
  unfold f_X3_lines at hf
  replace hf := (bsome hf).choose_spec.2
  refine U_aload_n (n := 1) 0 C dX3_lines_0 rfl rfl rfl ?_
  refine gf_RX3_19 (n := 4) C dX3_lines_1 hf rfl (fun v1 hf => ?_)
  refine U_iconst (n := 5) (0 : Int32) C dX3_lines_4 kiconst_0 rfl ?_
  refine U_aload_n (n := 6) 0 C dX3_lines_5 rfl rfl rfl ?_
  refine gf_RX3_10 (n := 9) C dX3_lines_6 hf rfl (fun v2 hf => ?_)
  refine gf_RX3_77 (n := 12) C dX3_lines_9 hf rfl (fun v3 hf => ?_)
  obtain ⟨v4, ev4, hf⟩ := bsome hf
  refine cv_RX3_141 (n := 15) C dX3_lines_12 (av := [.int (0 : Int32), .int v3]) rfl (rc_X2_countKind ev4) (M_X2_countKind ev4) (Nat.le_of_ble_eq_true rfl) (Nat.zero_le _) (Nat.zero_le _) (Nat.le_of_ble_eq_true rfl) rfl ?_
  refine U_ifle (tgt := 28) (n := 18) C dX3_lines_15 (by decide) rfl (fun c5 => ?_) (fun c5 => ?_)
  · replace hf := (if_pos c5).symm.trans hf
    refine U_iconst (n := 29) (0 : Int32) C dX3_lines_28 kiconst_0 rfl ?_
    refine U_istore_n (n := 30) (lv2 := [(1, .int (0 : Int32)), (0, .ref o)]) C dX3_lines_29 (by decide) rfl rfl ?_
    refine U_iconst (n := 31) (0 : Int32) C dX3_lines_30 kiconst_0 rfl ?_
    refine U_istore_n (n := 32) (lv2 := [(2, .int (0 : Int32)), (1, .int (0 : Int32)), (0, .ref o)]) C dX3_lines_31 (by decide) rfl rfl ?_
    refine U_join2 (fun v25 h26 => U g Γ 5 Q 0 0 105 [(1, .int v25)] [] h26) hf (fun v25 h26 hf => ?_) (fun v25 h26 hf J => U_lv [2, 1, 0] rfl (L_X3_lines_32 C hf J))
    refine U_iload_n (n := 106) 0 C dX3_lines_105 rfl rfl ?_
    obtain ⟨hr1, hr2⟩ := Prod.mk.inj (Option.some.inj hf)
    subst hr1; subst hr2
    subst hQ
    exact U_iret C dX3_lines_106 (Nat.le_refl 0) (Nat.le_refl 0)
  · replace hf := (if_neg c5).symm.trans hf
    obtain ⟨hr1, hr2⟩ := Prod.mk.inj (Option.some.inj hf)
    subst hr1; subst hr2
    subst hQ
    exact U_throw 2 C xown_RX3 rfl xfit_2 xcl_2 xin_2 xsr_206 xat_2 xgood_2 dX3_lines_18 dX3_lines_21 dX3_lines_22 dX3_lines_24 dX3_lines_27 (Nat.le_of_ble_eq_true rfl) (Nat.le_refl _) (Nat.le_refl _) rfl rfl
def f_X3_place (o : Nat) (a1 : Int32) (a2 : Int32) (a3 : Int32) (h : Hp) : Option ((Nat ⊕ Int32) × Hp) :=
  (rc 3 h o).bind fun _ =>
  bindT (f_X3_requirePoint o a1 h) (fun kv1 => some ((.inl kv1, h))) fun v1 =>
  if a2 < (-50 : Int32) then (
    some ((.inl 0, h))
  ) else (
    if (50 : Int32) < a2 then (
      some ((.inl 0, h))
    ) else (
      if a3 < (-50 : Int32) then (
        some ((.inl 0, h))
      ) else (
        if a3 ≤ (50 : Int32) then (
          (fR 3 1 h o).bind fun v6 =>
          (fR 2 8 h v6).bind fun v7 =>
          (aI h v7 a1).bind fun v8 =>
          (
            if v8 = (-100 : Int32) then (
              some ((0 : Int32))
            ) else (
              some ((1 : Int32))
            )
          ).bind fun v10 =>
          (f_X3_save o h).bind fun h15 =>
          (fR 3 1 h15 o).bind fun v16 =>
          (fR 2 8 h15 v16).bind fun v17 =>
          (wI h15 v17 a1 a2).bind fun h18 =>
          (fR 3 1 h18 o).bind fun v19 =>
          (fR 2 9 h18 v19).bind fun v20 =>
          (wI h18 v20 a1 a3).bind fun h21 =>
          (gB v10).bind fun _ =>
          some ((.inr v10, h21))
        ) else (
          some ((.inl 0, h))
        )
      )
    )
  )
theorem rc_X3_place {o : Nat} {a1 : Int32} {a2 : Int32} {a3 : Int32} {h : Hp} {z} (hf : f_X3_place o a1 a2 a3 h = some z) : rc 3 h o = some () := by
  unfold f_X3_place at hf
  exact (bsome hf).choose_spec.1
set_option maxHeartbeats 2000000 in
set_option maxRecDepth 20000 in
theorem M_X3_place {g : GT} {o : Nat} {a1 : Int32} {a2 : Int32} {a3 : Int32} {h : Hp} {r : (Nat ⊕ Int32)} {h2 : Hp} (hf : f_X3_place o a1 a2 a3 h = some (r, h2)) : CM g yX3_place cX3_place 5 (some .boolean) 8 0 0 [.ref o, .int a1, .int a2, .int a3] h (rI r) h2 := by
  refine CM_of rfl (fun _ => Nat.le_of_ble_eq_true rfl) (fun Γ C hn0 => ?_)
  have C : Cx g Γ cX3_place RX3 "place" 5 (some .boolean) 8 (0 + er (rI r)) (0 + 6 * er (rI r)) := C
  generalize hQ : Qe g Γ (rI r) h2 0 0 = Q
  show U g Γ 5 Q 0 0 0 [(0, .ref o), (1, .int a1), (2, .int a2), (3, .int a3)] [] h
  unfold f_X3_place at hf
  replace hf := (bsome hf).choose_spec.2
  refine U_aload_n (n := 1) 0 C dX3_place_0 rfl rfl rfl ?_
  refine U_iload_n (n := 2) 1 C dX3_place_1 rfl rfl ?_
  rcases bsomeT hf with ⟨kv1, ev1, hf⟩ | ⟨v1, ev1, hf⟩
  · skip
    obtain ⟨hr1, hr2⟩ := Prod.mk.inj (Option.some.inj hf)
    subst hr1; subst hr2
    subst hQ
    exact xv_RX3_80 kv1 C dX3_place_2 (av := [.int a1]) rfl (rc_X3_requirePoint ev1) (M_X3_requirePoint ev1) (Nat.le_of_ble_eq_true rfl) (Nat.le_of_ble_eq_true rfl)
  refine cv_RX3_80 (n := 5) C dX3_place_2 (av := [.int a1]) rfl (rc_X3_requirePoint ev1) (M_X3_requirePoint ev1) (Nat.le_of_ble_eq_true rfl) (Nat.zero_le _) (Nat.zero_le _) (Nat.le_of_ble_eq_true rfl) rfl ?_
  refine U_iload_n (n := 6) 2 C dX3_place_5 rfl rfl ?_
  refine U_bipush (n := 8) (-50 : Int32) C dX3_place_6 kbipush_m50 rfl ?_
  refine U_iclt (tgt := 29) (n := 11) C dX3_place_8 (by decide) rfl (fun c2 => ?_) (fun c2 => ?_)
  · replace hf := (if_pos c2).symm.trans hf
    obtain ⟨hr1, hr2⟩ := Prod.mk.inj (Option.some.inj hf)
    subst hr1; subst hr2
    subst hQ
    exact U_throw 0 C xown_RX3 rfl xfit_0 xcl_0 xin_0 xsr_214 xat_0 xgood_0 dX3_place_29 dX3_place_32 dX3_place_33 dX3_place_35 dX3_place_38 (Nat.le_of_ble_eq_true rfl) (Nat.le_refl _) (Nat.le_refl _) rfl rfl
  · replace hf := (if_neg c2).symm.trans hf
    refine U_iload_n (n := 12) 2 C dX3_place_11 rfl rfl ?_
    refine U_bipush (n := 14) (50 : Int32) C dX3_place_12 kbipush_50 rfl ?_
    refine U_icgt (tgt := 29) (n := 17) C dX3_place_14 (by decide) rfl (fun c3 => ?_) (fun c3 => ?_)
    · replace hf := (if_pos c3).symm.trans hf
      obtain ⟨hr1, hr2⟩ := Prod.mk.inj (Option.some.inj hf)
      subst hr1; subst hr2
      subst hQ
      exact U_throw 0 C xown_RX3 rfl xfit_0 xcl_0 xin_0 xsr_214 xat_0 xgood_0 dX3_place_29 dX3_place_32 dX3_place_33 dX3_place_35 dX3_place_38 (Nat.le_of_ble_eq_true rfl) (Nat.le_refl _) (Nat.le_refl _) rfl rfl
    · replace hf := (if_neg c3).symm.trans hf
      refine U_iload_n (n := 18) 3 C dX3_place_17 rfl rfl ?_
      refine U_bipush (n := 20) (-50 : Int32) C dX3_place_18 kbipush_m50 rfl ?_
      refine U_iclt (tgt := 29) (n := 23) C dX3_place_20 (by decide) rfl (fun c4 => ?_) (fun c4 => ?_)
      · replace hf := (if_pos c4).symm.trans hf
        obtain ⟨hr1, hr2⟩ := Prod.mk.inj (Option.some.inj hf)
        subst hr1; subst hr2
        subst hQ
        exact U_throw 0 C xown_RX3 rfl xfit_0 xcl_0 xin_0 xsr_214 xat_0 xgood_0 dX3_place_29 dX3_place_32 dX3_place_33 dX3_place_35 dX3_place_38 (Nat.le_of_ble_eq_true rfl) (Nat.le_refl _) (Nat.le_refl _) rfl rfl
      · replace hf := (if_neg c4).symm.trans hf
        refine U_iload_n (n := 24) 3 C dX3_place_23 rfl rfl ?_
        refine U_bipush (n := 26) (50 : Int32) C dX3_place_24 kbipush_50 rfl ?_
        refine U_icle (tgt := 39) (n := 29) C dX3_place_26 (by decide) rfl (fun c5 => ?_) (fun c5 => ?_)
        · replace hf := (if_pos c5).symm.trans hf
          refine U_aload_n (n := 40) 0 C dX3_place_39 rfl rfl rfl ?_
          refine gf_RX3_19 (n := 43) C dX3_place_40 hf rfl (fun v6 hf => ?_)
          refine gf_RX3_216 (n := 46) C dX3_place_43 hf rfl (fun v7 hf => ?_)
          refine U_iload_n (n := 47) 1 C dX3_place_46 rfl rfl ?_
          refine U_iald (n := 48) C dX3_place_47 hf rfl (fun v8 hf => ?_)
          refine U_bipush (n := 50) (-100 : Int32) C dX3_place_48 kbipush_m100 rfl ?_
          refine U_join1 (fun v10 => U g Γ 5 Q 0 0 58 [(0, .ref o), (1, .int a1), (2, .int a2), (3, .int a3)] [.int v10] h) hf (fun v10 hf => ?_) (fun v10 hf J12 => ?_)
          · skip
            refine U_istore (n := 60) (lv2 := [(4, .int v10), (0, .ref o), (1, .int a1), (2, .int a2), (3, .int a3)]) C dX3_place_58 (by decide) rfl rfl ?_
            refine U_aload_n (n := 61) 1 C dX3_place_60 rfl rfl rfl ?_
            obtain ⟨h15, ev14, hf⟩ := bsome hf
            refine cv_RX3_74 (n := 64) C dX3_place_61 (av := []) rfl (rc_X3_save ev14) (M_X3_save ev14) (Nat.le_of_ble_eq_true rfl) (Nat.zero_le _) (Nat.zero_le _) (Nat.le_of_ble_eq_true rfl) rfl ?_
            refine U_aload_n (n := 65) 1 C dX3_place_64 rfl rfl rfl ?_
            refine gf_RX3_19 (n := 68) C dX3_place_65 hf rfl (fun v16 hf => ?_)
            refine gf_RX3_216 (n := 71) C dX3_place_68 hf rfl (fun v17 hf => ?_)
            refine U_iload_n (n := 72) 2 C dX3_place_71 rfl rfl ?_
            refine U_iload_n (n := 73) 3 C dX3_place_72 rfl rfl ?_
            refine U_iast (n := 74) C dX3_place_73 hf rfl (fun h18 hf => ?_)
            refine U_aload_n (n := 75) 1 C dX3_place_74 rfl rfl rfl ?_
            refine gf_RX3_19 (n := 78) C dX3_place_75 hf rfl (fun v19 hf => ?_)
            refine gf_RX3_219 (n := 81) C dX3_place_78 hf rfl (fun v20 hf => ?_)
            refine U_iload_n (n := 82) 2 C dX3_place_81 rfl rfl ?_
            refine U_iload_n (n := 83) 4 C dX3_place_82 rfl rfl ?_
            refine U_iast (n := 84) C dX3_place_83 hf rfl (fun h21 hf => ?_)
            refine U_iload (n := 86) 0 C dX3_place_84 rfl rfl ?_
            obtain ⟨_, hz, hf⟩ := bsome hf
            replace hz := gB_spec hz
            obtain ⟨hr1, hr2⟩ := Prod.mk.inj (Option.some.inj hf)
            subst hr1; subst hr2
            subst hQ
            exact U_zret C dX3_place_86 hz (Nat.le_refl 0) (Nat.le_refl 0)
          · skip
            refine U_iceq (tgt := 57) (n := 53) C dX3_place_50 (by decide) rfl (fun c9 => ?_) (fun c9 => ?_)
            · replace hf := (if_pos c9).symm.trans hf
              refine U_iconst (n := 58) (0 : Int32) C dX3_place_57 kiconst_0 rfl ?_
              have hr := Option.some.inj hf
              subst hr
              exact U_lv [0, 1, 2, 3] rfl J12
            · replace hf := (if_neg c9).symm.trans hf
              refine U_iconst (n := 54) (1 : Int32) C dX3_place_53 kiconst_1 rfl ?_
              refine U_goto (n := 0) (tgt := 58) C dX3_place_54 (by decide) ?_
              have hr := Option.some.inj hf
              subst hr
              exact U_lv [0, 1, 2, 3] rfl J12
        · replace hf := (if_neg c5).symm.trans hf
          obtain ⟨hr1, hr2⟩ := Prod.mk.inj (Option.some.inj hf)
          subst hr1; subst hr2
          subst hQ
          exact U_throw 0 C xown_RX3 rfl xfit_0 xcl_0 xin_0 xsr_214 xat_0 xgood_0 dX3_place_29 dX3_place_32 dX3_place_33 dX3_place_35 dX3_place_38 (Nat.le_of_ble_eq_true rfl) (Nat.le_refl _) (Nat.le_refl _) rfl rfl
def f_X3_coordinate (o : Nat) (a1 : Int32) (a2 : Int32) (h : Hp) : Option (Nat ⊕ Int32) :=
  (rc 3 h o).bind fun _ =>
  bindT (f_X3_requirePoint o a1 h) (fun kv1 => some (.inl kv1)) fun v1 =>
  if a2 < 0 then (
    some (.inl 0)
  ) else (
    if a2 ≤ (1 : Int32) then (
      if a2 = 0 then (
        (fR 3 1 h o).bind fun v5 =>
        (fR 2 8 h v5).bind fun v6 =>
        (aI h v6 a1).bind fun v7 =>
        some (.inr v7)
      ) else (
        (fR 3 1 h o).bind fun v8 =>
        (fR 2 9 h v8).bind fun v9 =>
        (aI h v9 a1).bind fun v10 =>
        some (.inr v10)
      )
    ) else (
      some (.inl 0)
    )
  )
theorem rc_X3_coordinate {o : Nat} {a1 : Int32} {a2 : Int32} {h : Hp} {z} (hf : f_X3_coordinate o a1 a2 h = some z) : rc 3 h o = some () := by
  unfold f_X3_coordinate at hf
  exact (bsome hf).choose_spec.1
set_option maxHeartbeats 2000000 in
set_option maxRecDepth 20000 in
theorem M_X3_coordinate {g : GT} {o : Nat} {a1 : Int32} {a2 : Int32} {h : Hp} {r : (Nat ⊕ Int32)} (hf : f_X3_coordinate o a1 a2 h = some r) : CM g yX3_coordinate cX3_coordinate 3 (some .int) 8 0 0 [.ref o, .int a1, .int a2] h (rI r) h := by
  refine CM_of rfl (fun _ => Nat.le_of_ble_eq_true rfl) (fun Γ C hn0 => ?_)
  have C : Cx g Γ cX3_coordinate RX3 "coordinate" 3 (some .int) 8 (0 + er (rI r)) (0 + 6 * er (rI r)) := C
  generalize hQ : Qe g Γ (rI r) h 0 0 = Q
  show U g Γ 3 Q 0 0 0 [(0, .ref o), (1, .int a1), (2, .int a2)] [] h
  unfold f_X3_coordinate at hf
  replace hf := (bsome hf).choose_spec.2
  refine U_aload_n (n := 1) 0 C dX3_coordinate_0 rfl rfl rfl ?_
  refine U_iload_n (n := 2) 1 C dX3_coordinate_1 rfl rfl ?_
  rcases bsomeT hf with ⟨kv1, ev1, hf⟩ | ⟨v1, ev1, hf⟩
  · skip
    have hr := (Option.some.inj hf)
    subst hr
    subst hQ
    exact xv_RX3_80 kv1 C dX3_coordinate_2 (av := [.int a1]) rfl (rc_X3_requirePoint ev1) (M_X3_requirePoint ev1) (Nat.le_of_ble_eq_true rfl) (Nat.le_of_ble_eq_true rfl)
  refine cv_RX3_80 (n := 5) C dX3_coordinate_2 (av := [.int a1]) rfl (rc_X3_requirePoint ev1) (M_X3_requirePoint ev1) (Nat.le_of_ble_eq_true rfl) (Nat.zero_le _) (Nat.zero_le _) (Nat.le_of_ble_eq_true rfl) rfl ?_
  refine U_iload_n (n := 6) 2 C dX3_coordinate_5 rfl rfl ?_
  refine U_iflt (tgt := 14) (n := 9) C dX3_coordinate_6 (by decide) rfl (fun c2 => ?_) (fun c2 => ?_)
  · replace hf := (if_pos c2).symm.trans hf
    have hr := (Option.some.inj hf)
    subst hr
    subst hQ
    exact U_throw 0 C xown_RX3 rfl xfit_0 xcl_0 xin_0 xsr_157 xat_0 xgood_0 dX3_coordinate_14 dX3_coordinate_17 dX3_coordinate_18 dX3_coordinate_20 dX3_coordinate_23 (Nat.le_of_ble_eq_true rfl) (Nat.le_refl _) (Nat.le_refl _) rfl rfl
  · replace hf := (if_neg c2).symm.trans hf
    refine U_iload_n (n := 10) 2 C dX3_coordinate_9 rfl rfl ?_
    refine U_iconst (n := 11) (1 : Int32) C dX3_coordinate_10 kiconst_1 rfl ?_
    refine U_icle (tgt := 24) (n := 14) C dX3_coordinate_11 (by decide) rfl (fun c3 => ?_) (fun c3 => ?_)
    · replace hf := (if_pos c3).symm.trans hf
      refine U_iload_n (n := 25) 2 C dX3_coordinate_24 rfl rfl ?_
      refine U_ifne (tgt := 40) (n := 28) C dX3_coordinate_25 (by decide) rfl (fun c4 => ?_) (fun c4 => ?_)
      · replace hf := (if_pos c4).symm.trans hf
        refine U_aload_n (n := 29) 0 C dX3_coordinate_28 rfl rfl rfl ?_
        refine gf_RX3_19 (n := 32) C dX3_coordinate_29 hf rfl (fun v5 hf => ?_)
        refine gf_RX3_216 (n := 35) C dX3_coordinate_32 hf rfl (fun v6 hf => ?_)
        refine U_iload_n (n := 36) 1 C dX3_coordinate_35 rfl rfl ?_
        refine U_iald (n := 37) C dX3_coordinate_36 hf rfl (fun v7 hf => ?_)
        refine U_goto (n := 0) (tgt := 49) C dX3_coordinate_37 (by decide) ?_
        have hr := (Option.some.inj hf)
        subst hr
        subst hQ
        exact U_iret C dX3_coordinate_49 (Nat.le_refl 0) (Nat.le_refl 0)
      · replace hf := (if_neg c4).symm.trans hf
        refine U_aload_n (n := 41) 0 C dX3_coordinate_40 rfl rfl rfl ?_
        refine gf_RX3_19 (n := 44) C dX3_coordinate_41 hf rfl (fun v8 hf => ?_)
        refine gf_RX3_219 (n := 47) C dX3_coordinate_44 hf rfl (fun v9 hf => ?_)
        refine U_iload_n (n := 48) 1 C dX3_coordinate_47 rfl rfl ?_
        refine U_iald (n := 49) C dX3_coordinate_48 hf rfl (fun v10 hf => ?_)
        have hr := (Option.some.inj hf)
        subst hr
        subst hQ
        exact U_iret C dX3_coordinate_49 (Nat.le_refl 0) (Nat.le_refl 0)
    · replace hf := (if_neg c3).symm.trans hf
      have hr := (Option.some.inj hf)
      subst hr
      subst hQ
      exact U_throw 0 C xown_RX3 rfl xfit_0 xcl_0 xin_0 xsr_157 xat_0 xgood_0 dX3_coordinate_14 dX3_coordinate_17 dX3_coordinate_18 dX3_coordinate_20 dX3_coordinate_23 (Nat.le_of_ble_eq_true rfl) (Nat.le_refl _) (Nat.le_refl _) rfl rfl
def l_X3_read_8 (p0 : Nat) : Nat → Int32 → Int32 → Hp → Option (Int32 × Hp)
  | 0, _, _, _ => none
  | fuel + 1, x1, x2, h =>
    (fR 3 0 h p0).bind fun v3 =>
    (fI 0 1 h v3).bind fun v4 =>
    if v4 ≤ x2 then (
      some ((x1, h))
    ) else (
      (fR 3 0 h p0).bind fun v6 =>
      (fR 3 1 h p0).bind fun v7 =>
      (fR 2 8 h v7).bind fun v8 =>
      (fR 3 1 h p0).bind fun v9 =>
      (fR 2 9 h v9).bind fun v10 =>
      (f_X0_signAt v6 x2 v8 v10 h).bind fun v11 =>
      bind2 (
        if v11 = (-100 : Int32) then (
          some ((x1, h))
        ) else (
          (f_X3_giveTriple p0 x2 v11 h).bind fun h19 =>
          some (((x1 + 1), h19))
        )
      ) fun v13 h14 =>
      l_X3_read_8 p0 fuel v13 (x2 + 1) h14
    )
def f_X3_read (o : Nat) (h : Hp) : Option (Int32 × Hp) :=
  (rc 3 h o).bind fun _ =>
  (f_X3_save o h).bind fun h2 =>
  bind2 (l_X3_read_8 o FU (0 : Int32) (0 : Int32) h2) fun v20 h21 =>
  some ((v20, h21))
set_option maxHeartbeats 2000000 in
set_option maxRecDepth 20000 in
theorem L_X3_read_8 {g : GT} {Γ : CT} {Q : State → Prop} {mc ms : Nat} (C : Cx g Γ cX3_read RX3 "read" 4 (some .int) 9 mc ms) {p0 : Nat} : ∀ {fuel : Nat} {x1 : Int32} {x2 : Int32} {h : Hp} {y1 : Int32} {hy : Hp}, l_X3_read_8 p0 fuel x1 x2 h = some (y1, hy) → U g Γ 4 Q 0 0 63 [(1, .int y1)] [] hy → U g Γ 4 Q 0 0 8 [(0, .ref p0), (1, .int x1), (2, .int x2)] [] h := by
  intro fuel
  induction fuel with
  | zero =>
    intro x1 x2 h y1 hy hf J0
    simp only [l_X3_read_8, reduceCtorEq] at hf
  | succ fuel ih =>
    intro x1 x2 h y1 hy hf J0
    rw [l_X3_read_8] at hf
    refine U_iload_n (n := 9) 2 C dX3_read_8 rfl rfl ?_
    refine U_aload_n (n := 10) 0 C dX3_read_9 rfl rfl rfl ?_
    refine gf_RX3_10 (n := 13) C dX3_read_10 hf rfl (fun v3 hf => ?_)
    refine gf_RX3_77 (n := 16) C dX3_read_13 hf rfl (fun v4 hf => ?_)
    refine U_icge (tgt := 63) (n := 19) C dX3_read_16 (by decide) rfl (fun c5 => ?_) (fun c5 => ?_)
    · replace hf := (if_pos c5).symm.trans hf
      obtain ⟨hr0, hs0⟩ := Prod.mk.inj (Option.some.inj hf)
      subst hr0
      subst hs0
      exact U_lv [1] rfl J0
    · replace hf := (if_neg c5).symm.trans hf
      refine U_aload_n (n := 20) 0 C dX3_read_19 rfl rfl rfl ?_
      refine gf_RX3_10 (n := 23) C dX3_read_20 hf rfl (fun v6 hf => ?_)
      refine U_iload_n (n := 24) 2 C dX3_read_23 rfl rfl ?_
      refine U_aload_n (n := 25) 0 C dX3_read_24 rfl rfl rfl ?_
      refine gf_RX3_19 (n := 28) C dX3_read_25 hf rfl (fun v7 hf => ?_)
      refine gf_RX3_216 (n := 31) C dX3_read_28 hf rfl (fun v8 hf => ?_)
      refine U_aload_n (n := 32) 0 C dX3_read_31 rfl rfl rfl ?_
      refine gf_RX3_19 (n := 35) C dX3_read_32 hf rfl (fun v9 hf => ?_)
      refine gf_RX3_219 (n := 38) C dX3_read_35 hf rfl (fun v10 hf => ?_)
      obtain ⟨v11, ev11, hf⟩ := bsome hf
      refine cv_RX3_222 (n := 41) C dX3_read_38 (av := [.int x2, .ref v8, .ref v10]) rfl (rc_X0_signAt ev11) (M_X0_signAt ev11) (Nat.le_of_ble_eq_true rfl) (Nat.zero_le _) (Nat.zero_le _) (Nat.le_of_ble_eq_true rfl) rfl ?_
      refine U_istore_n (n := 42) (lv2 := [(3, .int v11), (0, .ref p0), (1, .int x1), (2, .int x2)]) C dX3_read_41 (by decide) rfl rfl ?_
      refine U_iload_n (n := 43) 0 C dX3_read_42 rfl rfl ?_
      refine U_bipush (n := 45) (-100 : Int32) C dX3_read_43 kbipush_m100 rfl ?_
      refine U_join2 (fun v13 h14 => U g Γ 4 Q 0 0 57 [(0, .ref p0), (1, .int v13), (2, .int x2)] [] h14) hf (fun v13 h14 hf => ?_) (fun v13 h14 hf J16 => ?_)
      · skip
        refine U_iinc (n := 60) (v := (x2 + 1)) (lv2 := [(2, .int (x2 + 1)), (0, .ref p0), (1, .int v13)]) 2 C dX3_read_57 rfl rfl (by decide) rfl rfl ?_
        refine U_goto (n := 0) (tgt := 8) C dX3_read_60 (by decide) ?_
        exact U_lv [1, 2, 0] rfl (ih hf J0)
      · skip
        refine U_iceq (tgt := 57) (n := 48) C dX3_read_45 (by decide) rfl (fun c12 => ?_) (fun c12 => ?_)
        · replace hf := (if_pos c12).symm.trans hf
          obtain ⟨hr0, hs0⟩ := Prod.mk.inj (Option.some.inj hf)
          subst hr0
          subst hs0
          exact U_lv [1, 2, 3] rfl J16
        · replace hf := (if_neg c12).symm.trans hf
          refine U_aload_n (n := 49) 1 C dX3_read_48 rfl rfl rfl ?_
          refine U_iload_n (n := 50) 3 C dX3_read_49 rfl rfl ?_
          refine U_iload_n (n := 51) 0 C dX3_read_50 rfl rfl ?_
          obtain ⟨h19, ev18, hf⟩ := bsome hf
          refine cv_RX3_226 (n := 54) C dX3_read_51 (av := [.int x2, .int v11]) rfl (rc_X3_giveTriple ev18) (M_X3_giveTriple ev18) (Nat.le_of_ble_eq_true rfl) (Nat.zero_le _) (Nat.zero_le _) (Nat.le_of_ble_eq_true rfl) rfl ?_
          refine U_iinc (n := 57) (v := (x1 + 1)) (lv2 := [(1, .int (x1 + 1)), (3, .int v11), (0, .ref p0), (2, .int x2)]) 2 C dX3_read_54 rfl rfl (by decide) rfl rfl ?_
          obtain ⟨hr0, hs0⟩ := Prod.mk.inj (Option.some.inj hf)
          subst hr0
          subst hs0
          exact U_lv [2, 0, 3] rfl J16
theorem rc_X3_read {o : Nat} {h : Hp} {z} (hf : f_X3_read o h = some z) : rc 3 h o = some () := by
  unfold f_X3_read at hf
  exact (bsome hf).choose_spec.1
set_option maxHeartbeats 2000000 in
set_option maxRecDepth 20000 in
theorem M_X3_read {g : GT} {o : Nat} {h : Hp} {r : Int32} {h2 : Hp} (hf : f_X3_read o h = some (r, h2)) : CM g yX3_read cX3_read 4 (some .int) 9 0 0 [.ref o] h (.inr (some (.int r))) h2 := by
  refine CM_of rfl (fun _ => Nat.le_of_ble_eq_true rfl) (fun Γ C hn0 => ?_)
  have C : Cx g Γ cX3_read RX3 "read" 4 (some .int) 9 0 0 := C
  generalize hQ : Qe g Γ (.inr (some (.int r))) h2 0 0 = Q
  show U g Γ 4 Q 0 0 0 [(0, .ref o)] [] h
  unfold f_X3_read at hf
  replace hf := (bsome hf).choose_spec.2
  refine U_aload_n (n := 1) 0 C dX3_read_0 rfl rfl rfl ?_
  obtain ⟨h2, ev1, hf⟩ := bsome hf
  refine cv_RX3_74 (n := 4) C dX3_read_1 (av := []) rfl (rc_X3_save ev1) (M_X3_save ev1) (Nat.le_of_ble_eq_true rfl) (Nat.zero_le _) (Nat.zero_le _) (Nat.le_of_ble_eq_true rfl) rfl ?_
  refine U_iconst (n := 5) (0 : Int32) C dX3_read_4 kiconst_0 rfl ?_
  refine U_istore_n (n := 6) (lv2 := [(1, .int (0 : Int32)), (0, .ref o)]) C dX3_read_5 (by decide) rfl rfl ?_
  refine U_iconst (n := 7) (0 : Int32) C dX3_read_6 kiconst_0 rfl ?_
  refine U_istore_n (n := 8) (lv2 := [(2, .int (0 : Int32)), (1, .int (0 : Int32)), (0, .ref o)]) C dX3_read_7 (by decide) rfl rfl ?_
  refine U_join2 (fun v20 h21 => U g Γ 4 Q 0 0 63 [(1, .int v20)] [] h21) hf (fun v20 h21 hf => ?_) (fun v20 h21 hf J => U_lv [2, 1, 0] rfl (L_X3_read_8 C hf J))
  refine U_iload_n (n := 64) 0 C dX3_read_63 rfl rfl ?_
  obtain ⟨hr1, hr2⟩ := Prod.mk.inj (Option.some.inj hf)
  subst hr1; subst hr2
  subst hQ
  exact U_iret C dX3_read_64 (Nat.le_refl 0) (Nat.le_refl 0)
def l_X3_mismatchesAt_5 (p0 : Nat) (p1 : Nat) (p2 : Nat) (h : Hp) : Nat → Int32 → Int32 → Option Int32
  | 0, _, _ => none
  | fuel + 1, x3, x4 =>
    (fR 3 0 h p0).bind fun v1 =>
    (fI 0 1 h v1).bind fun v2 =>
    if v2 ≤ x4 then (
      some x3
    ) else (
      (fR 3 1 h p0).bind fun v4 =>
      (fR 2 4 h v4).bind fun v5 =>
      (aI h v5 x4).bind fun v6 =>
      (
        if v6 = 0 then (
          some x3
        ) else (
          (fR 3 0 h p0).bind fun v12 =>
          (f_X0_signAt v12 x4 p1 p2 h).bind fun v13 =>
          if v13 = (-100 : Int32) then (
            some x3
          ) else (
            (fR 3 1 h p0).bind fun v15 =>
            (fR 2 3 h v15).bind fun v16 =>
            (aI h v16 x4).bind fun v17 =>
            if v13 = v17 then (
              some x3
            ) else (
              some ((x3 + 1))
            )
          )
        )
      ).bind fun v8 =>
      l_X3_mismatchesAt_5 p0 p1 p2 h fuel v8 (x4 + 1)
    )
def f_X3_mismatchesAt (o : Nat) (a1 : Nat) (a2 : Nat) (h : Hp) : Option Int32 :=
  (rc 3 h o).bind fun _ =>
  (l_X3_mismatchesAt_5 o a1 a2 h FU (0 : Int32) (0 : Int32)).bind fun v19 =>
  some (v19)
set_option maxHeartbeats 2000000 in
set_option maxRecDepth 20000 in
theorem L_X3_mismatchesAt_5 {g : GT} {Γ : CT} {Q : State → Prop} {mc ms : Nat} (C : Cx g Γ cX3_mismatchesAt RX3 "mismatchesAt" 6 (some .int) 8 mc ms) {p0 : Nat} {p1 : Nat} {p2 : Nat} {h : Hp} : ∀ {fuel : Nat} {x3 : Int32} {x4 : Int32} {y3 : Int32}, l_X3_mismatchesAt_5 p0 p1 p2 h fuel x3 x4 = some y3 → U g Γ 6 Q 0 0 74 [(3, .int y3)] [] h → U g Γ 6 Q 0 0 5 [(0, .ref p0), (1, .ref p1), (2, .ref p2), (3, .int x3), (4, .int x4)] [] h := by
  intro fuel
  induction fuel with
  | zero =>
    intro x3 x4 y3 hf J0
    simp only [l_X3_mismatchesAt_5, reduceCtorEq] at hf
  | succ fuel ih =>
    intro x3 x4 y3 hf J0
    rw [l_X3_mismatchesAt_5] at hf
    refine U_iload (n := 7) 4 C dX3_mismatchesAt_5 rfl rfl ?_
    refine U_aload_n (n := 8) 0 C dX3_mismatchesAt_7 rfl rfl rfl ?_
    refine gf_RX3_10 (n := 11) C dX3_mismatchesAt_8 hf rfl (fun v1 hf => ?_)
    refine gf_RX3_77 (n := 14) C dX3_mismatchesAt_11 hf rfl (fun v2 hf => ?_)
    refine U_icge (tgt := 74) (n := 17) C dX3_mismatchesAt_14 (by decide) rfl (fun c3 => ?_) (fun c3 => ?_)
    · replace hf := (if_pos c3).symm.trans hf
      have hr := Option.some.inj hf
      subst hr
      exact U_lv [3] rfl J0
    · replace hf := (if_neg c3).symm.trans hf
      refine U_aload_n (n := 18) 0 C dX3_mismatchesAt_17 rfl rfl rfl ?_
      refine gf_RX3_19 (n := 21) C dX3_mismatchesAt_18 hf rfl (fun v4 hf => ?_)
      refine gf_RX3_100 (n := 24) C dX3_mismatchesAt_21 hf rfl (fun v5 hf => ?_)
      refine U_iload (n := 26) 4 C dX3_mismatchesAt_24 rfl rfl ?_
      refine U_iald (n := 27) C dX3_mismatchesAt_26 hf rfl (fun v6 hf => ?_)
      refine U_join1 (fun v8 => U g Γ 6 Q 0 0 68 [(0, .ref p0), (1, .ref p1), (2, .ref p2), (3, .int v8), (4, .int x4)] [] h) hf (fun v8 hf => ?_) (fun v8 hf J10 => ?_)
      · skip
        refine U_iinc (n := 71) (v := (x4 + 1)) (lv2 := [(4, .int (x4 + 1)), (0, .ref p0), (1, .ref p1), (2, .ref p2), (3, .int v8)]) 4 C dX3_mismatchesAt_68 rfl rfl (by decide) rfl rfl ?_
        refine U_goto (n := 0) (tgt := 5) C dX3_mismatchesAt_71 (by decide) ?_
        exact U_lv [1, 2, 3, 4, 0] rfl (ih hf J0)
      · skip
        refine U_ifeq (tgt := 68) (n := 30) C dX3_mismatchesAt_27 (by decide) rfl (fun c7 => ?_) (fun c7 => ?_)
        · replace hf := (if_pos c7).symm.trans hf
          have hr := Option.some.inj hf
          subst hr
          exact U_lv [0, 1, 2, 3, 4] rfl J10
        · replace hf := (if_neg c7).symm.trans hf
          refine U_aload_n (n := 31) 0 C dX3_mismatchesAt_30 rfl rfl rfl ?_
          refine gf_RX3_10 (n := 34) C dX3_mismatchesAt_31 hf rfl (fun v12 hf => ?_)
          refine U_iload (n := 36) 4 C dX3_mismatchesAt_34 rfl rfl ?_
          refine U_aload_n (n := 37) 1 C dX3_mismatchesAt_36 rfl rfl rfl ?_
          refine U_aload_n (n := 38) 2 C dX3_mismatchesAt_37 rfl rfl rfl ?_
          obtain ⟨v13, ev13, hf⟩ := bsome hf
          refine cv_RX3_222 (n := 41) C dX3_mismatchesAt_38 (av := [.int x4, .ref p1, .ref p2]) rfl (rc_X0_signAt ev13) (M_X0_signAt ev13) (Nat.le_of_ble_eq_true rfl) (Nat.zero_le _) (Nat.zero_le _) (Nat.le_of_ble_eq_true rfl) rfl ?_
          refine U_istore (n := 43) (lv2 := [(5, .int v13), (0, .ref p0), (1, .ref p1), (2, .ref p2), (3, .int x3), (4, .int x4)]) C dX3_mismatchesAt_41 (by decide) rfl rfl ?_
          refine U_iload (n := 45) 0 C dX3_mismatchesAt_43 rfl rfl ?_
          refine U_bipush (n := 47) (-100 : Int32) C dX3_mismatchesAt_45 kbipush_m100 rfl ?_
          refine U_iceq (tgt := 68) (n := 50) C dX3_mismatchesAt_47 (by decide) rfl (fun c14 => ?_) (fun c14 => ?_)
          · replace hf := (if_pos c14).symm.trans hf
            have hr := Option.some.inj hf
            subst hr
            exact U_lv [1, 2, 3, 4, 5] rfl J10
          · replace hf := (if_neg c14).symm.trans hf
            refine U_iload (n := 52) 0 C dX3_mismatchesAt_50 rfl rfl ?_
            refine U_aload_n (n := 53) 1 C dX3_mismatchesAt_52 rfl rfl rfl ?_
            refine gf_RX3_19 (n := 56) C dX3_mismatchesAt_53 hf rfl (fun v15 hf => ?_)
            refine gf_RX3_129 (n := 59) C dX3_mismatchesAt_56 hf rfl (fun v16 hf => ?_)
            refine U_iload (n := 61) 5 C dX3_mismatchesAt_59 rfl rfl ?_
            refine U_iald (n := 62) C dX3_mismatchesAt_61 hf rfl (fun v17 hf => ?_)
            refine U_iceq (tgt := 68) (n := 65) C dX3_mismatchesAt_62 (by decide) rfl (fun c18 => ?_) (fun c18 => ?_)
            · replace hf := (if_pos c18).symm.trans hf
              have hr := Option.some.inj hf
              subst hr
              exact U_lv [1, 2, 3, 4, 5] rfl J10
            · replace hf := (if_neg c18).symm.trans hf
              refine U_iinc (n := 68) (v := (x3 + 1)) (lv2 := [(3, .int (x3 + 1)), (5, .int v13), (0, .ref p0), (1, .ref p1), (2, .ref p2), (4, .int x4)]) 4 C dX3_mismatchesAt_65 rfl rfl (by decide) rfl rfl ?_
              have hr := Option.some.inj hf
              subst hr
              exact U_lv [2, 3, 4, 0, 5] rfl J10
theorem rc_X3_mismatchesAt {o : Nat} {a1 : Nat} {a2 : Nat} {h : Hp} {z} (hf : f_X3_mismatchesAt o a1 a2 h = some z) : rc 3 h o = some () := by
  unfold f_X3_mismatchesAt at hf
  exact (bsome hf).choose_spec.1
set_option maxHeartbeats 2000000 in
set_option maxRecDepth 20000 in
theorem M_X3_mismatchesAt {g : GT} {o : Nat} {a1 : Nat} {a2 : Nat} {h : Hp} {r : Int32} (hf : f_X3_mismatchesAt o a1 a2 h = some r) : CM g yX3_mismatchesAt cX3_mismatchesAt 6 (some .int) 8 0 0 [.ref o, .ref a1, .ref a2] h (.inr (some (.int r))) h := by
  refine CM_of rfl (fun _ => Nat.le_of_ble_eq_true rfl) (fun Γ C hn0 => ?_)
  have C : Cx g Γ cX3_mismatchesAt RX3 "mismatchesAt" 6 (some .int) 8 0 0 := C
  generalize hQ : Qe g Γ (.inr (some (.int r))) h 0 0 = Q
  show U g Γ 6 Q 0 0 0 [(0, .ref o), (1, .ref a1), (2, .ref a2)] [] h
  unfold f_X3_mismatchesAt at hf
  replace hf := (bsome hf).choose_spec.2
  refine U_iconst (n := 1) (0 : Int32) C dX3_mismatchesAt_0 kiconst_0 rfl ?_
  refine U_istore_n (n := 2) (lv2 := [(3, .int (0 : Int32)), (0, .ref o), (1, .ref a1), (2, .ref a2)]) C dX3_mismatchesAt_1 (by decide) rfl rfl ?_
  refine U_iconst (n := 3) (0 : Int32) C dX3_mismatchesAt_2 kiconst_0 rfl ?_
  refine U_istore (n := 5) (lv2 := [(4, .int (0 : Int32)), (3, .int (0 : Int32)), (0, .ref o), (1, .ref a1), (2, .ref a2)]) C dX3_mismatchesAt_3 (by decide) rfl rfl ?_
  refine U_join1 (fun v19 => U g Γ 6 Q 0 0 74 [(3, .int v19)] [] h) hf (fun v19 hf => ?_) (fun v19 hf J => U_lv [2, 3, 4, 1, 0] rfl (L_X3_mismatchesAt_5 C hf J))
  refine U_iload_n (n := 75) 0 C dX3_mismatchesAt_74 rfl rfl ?_
  have hr := (Option.some.inj hf)
  subst hr
  subst hQ
  exact U_iret C dX3_mismatchesAt_75 (Nat.le_refl 0) (Nat.le_refl 0)
def f_X3_mismatches (o : Nat) (h : Hp) : Option Int32 :=
  (rc 3 h o).bind fun _ =>
  (fR 3 1 h o).bind fun v1 =>
  (fR 2 8 h v1).bind fun v2 =>
  (fR 3 1 h o).bind fun v3 =>
  (fR 2 9 h v3).bind fun v4 =>
  (f_X3_mismatchesAt o v2 v4 h).bind fun v5 =>
  some (v5)
theorem rc_X3_mismatches {o : Nat} {h : Hp} {z} (hf : f_X3_mismatches o h = some z) : rc 3 h o = some () := by
  unfold f_X3_mismatches at hf
  exact (bsome hf).choose_spec.1
set_option maxHeartbeats 2000000 in
set_option maxRecDepth 20000 in
theorem M_X3_mismatches {g : GT} {o : Nat} {h : Hp} {r : Int32} (hf : f_X3_mismatches o h = some r) : CM g yX3_mismatches cX3_mismatches 1 (some .int) 9 0 0 [.ref o] h (.inr (some (.int r))) h := by
  refine CM_of rfl (fun _ => Nat.le_of_ble_eq_true rfl) (fun Γ C hn0 => ?_)
  have C : Cx g Γ cX3_mismatches RX3 "mismatches" 1 (some .int) 9 0 0 := C
  generalize hQ : Qe g Γ (.inr (some (.int r))) h 0 0 = Q
  show U g Γ 1 Q 0 0 0 [(0, .ref o)] [] h
  unfold f_X3_mismatches at hf
  replace hf := (bsome hf).choose_spec.2
  refine U_aload_n (n := 1) 0 C dX3_mismatches_0 rfl rfl rfl ?_
  refine U_aload_n (n := 2) 0 C dX3_mismatches_1 rfl rfl rfl ?_
  refine gf_RX3_19 (n := 5) C dX3_mismatches_2 hf rfl (fun v1 hf => ?_)
  refine gf_RX3_216 (n := 8) C dX3_mismatches_5 hf rfl (fun v2 hf => ?_)
  refine U_aload_n (n := 9) 0 C dX3_mismatches_8 rfl rfl rfl ?_
  refine gf_RX3_19 (n := 12) C dX3_mismatches_9 hf rfl (fun v3 hf => ?_)
  refine gf_RX3_219 (n := 15) C dX3_mismatches_12 hf rfl (fun v4 hf => ?_)
  obtain ⟨v5, ev5, hf⟩ := bsome hf
  refine cv_RX3_229 (n := 18) C dX3_mismatches_15 (av := [.ref v2, .ref v4]) rfl (rc_X3_mismatchesAt ev5) (M_X3_mismatchesAt ev5) (Nat.le_of_ble_eq_true rfl) (Nat.zero_le _) (Nat.zero_le _) (Nat.le_of_ble_eq_true rfl) rfl ?_
  have hr := (Option.some.inj hf)
  subst hr
  subst hQ
  exact U_iret C dX3_mismatches_18 (Nat.le_refl 0) (Nat.le_refl 0)
def f_X3_nextRandom (a0 : Int64) : Option Int64 :=
  some (((((1103515245 : Int64) * a0) + (12345 : Int64)) - (((1103515245 : Int64) * a0) + (12345 : Int64)) / (2147483648 : Int64) * (2147483648 : Int64)))
set_option maxHeartbeats 2000000 in
set_option maxRecDepth 20000 in
theorem M_X3_nextRandom {g : GT} {a0 : Int64} {h : Hp} {r : Int64} (hf : f_X3_nextRandom a0 = some r) : CM g yX3_nextRandom cX3_nextRandom 2 (some .long) 6 0 0 [.long a0] h (.inr (some (.long r))) h := by
  refine CM_of rfl (fun _ => Nat.le_of_ble_eq_true rfl) (fun Γ C hn0 => ?_)
  have C : Cx g Γ cX3_nextRandom RX3 "nextRandom" 2 (some .long) 6 0 0 := C
  generalize hQ : Qe g Γ (.inr (some (.long r))) h 0 0 = Q
  show U g Γ 2 Q 0 0 0 [(0, .long a0)] [] h
  unfold f_X3_nextRandom at hf
  refine U_ldc2 (n := 3) (1103515245 : Int64) C dX3_nextRandom_0 ct_RX3_369 rfl ?_
  refine U_lload_n (n := 4) 0 C dX3_nextRandom_3 rfl rfl ?_
  refine U_lmul (n := 5) C dX3_nextRandom_4 rfl ?_
  refine U_ldc2 (n := 8) (12345 : Int64) C dX3_nextRandom_5 ct_RX3_371 rfl ?_
  refine U_ladd (n := 9) C dX3_nextRandom_8 rfl ?_
  refine U_ldc2 (n := 12) (2147483648 : Int64) C dX3_nextRandom_9 ct_RX3_373 rfl ?_
  refine U_lrem (n := 13) C dX3_nextRandom_12 (by decide) rfl ?_
  have hr := (Option.some.inj hf)
  subst hr
  subst hQ
  exact U_lret C dX3_nextRandom_13 (Nat.le_refl 0) (Nat.le_refl 0)
def f_X3_randomCoordinate (a0 : Int64) (a2 : Int32) : Option Int32 :=
  (gNJ (((2 : Int64) * (a2).toInt64) + (1 : Int64))).bind fun _ =>
  some (((((a0 / (65536 : Int64)) - (a0 / (65536 : Int64)) / (((2 : Int64) * (a2).toInt64) + (1 : Int64)) * (((2 : Int64) * (a2).toInt64) + (1 : Int64)))).toInt32 - a2))
set_option maxHeartbeats 2000000 in
set_option maxRecDepth 20000 in
theorem M_X3_randomCoordinate {g : GT} {a0 : Int64} {a2 : Int32} {h : Hp} {r : Int32} (hf : f_X3_randomCoordinate a0 a2 = some r) : CM g yX3_randomCoordinate cX3_randomCoordinate 3 (some .int) 6 0 0 [.long a0, .int a2] h (.inr (some (.int r))) h := by
  refine CM_of rfl (fun _ => Nat.le_of_ble_eq_true rfl) (fun Γ C hn0 => ?_)
  have C : Cx g Γ cX3_randomCoordinate RX3 "randomCoordinate" 3 (some .int) 6 0 0 := C
  generalize hQ : Qe g Γ (.inr (some (.int r))) h 0 0 = Q
  show U g Γ 3 Q 0 0 0 [(0, .long a0), (2, .int a2)] [] h
  unfold f_X3_randomCoordinate at hf
  refine U_lload_n (n := 1) 0 C dX3_randomCoordinate_0 rfl rfl ?_
  refine U_ldc2 (n := 4) (65536 : Int64) C dX3_randomCoordinate_1 ct_RX3_375 rfl ?_
  refine U_ldiv (n := 5) C dX3_randomCoordinate_4 (by decide) rfl ?_
  refine U_ldc2 (n := 8) (2 : Int64) C dX3_randomCoordinate_5 ct_RX3_377 rfl ?_
  refine U_iload_n (n := 9) 1 C dX3_randomCoordinate_8 rfl rfl ?_
  refine U_i2l (n := 10) C dX3_randomCoordinate_9 rfl ?_
  refine U_lmul (n := 11) C dX3_randomCoordinate_10 rfl ?_
  refine U_lconst (n := 12) (1 : Int64) C dX3_randomCoordinate_11 klconst_1 rfl ?_
  refine U_ladd (n := 13) C dX3_randomCoordinate_12 rfl ?_
  obtain ⟨_, hz1, hf⟩ := bsome hf
  replace hz1 := gNJ_spec hz1
  refine U_lrem (n := 14) C dX3_randomCoordinate_13 hz1 rfl ?_
  refine U_l2i (n := 15) C dX3_randomCoordinate_14 rfl ?_
  refine U_iload_n (n := 16) 1 C dX3_randomCoordinate_15 rfl rfl ?_
  refine U_isub (n := 17) C dX3_randomCoordinate_16 rfl ?_
  have hr := (Option.some.inj hf)
  subst hr
  subst hQ
  exact U_iret C dX3_randomCoordinate_17 (Nat.le_refl 0) (Nat.le_refl 0)
def l_X3_tryPlacement_6 (p0 : Nat) (p3 : Int32) : Nat → Int64 → Int32 → Hp → Option (Int64 × Hp)
  | 0, _, _, _ => none
  | fuel + 1, x4, x6, h =>
    (fR 3 0 h p0).bind fun v1 =>
    (fI 0 0 h v1).bind fun v2 =>
    if v2 ≤ x6 then (
      some ((x4, h))
    ) else (
      (f_X3_nextRandom x4).bind fun v4 =>
      (fR 3 8 h p0).bind fun v5 =>
      (f_X3_randomCoordinate v4 p3).bind fun v6 =>
      (wI h v5 x6 v6).bind fun h7 =>
      (f_X3_nextRandom v4).bind fun v8 =>
      (fR 3 9 h7 p0).bind fun v9 =>
      (f_X3_randomCoordinate v8 p3).bind fun v10 =>
      (wI h7 v9 x6 v10).bind fun h11 =>
      l_X3_tryPlacement_6 p0 p3 fuel v8 (x6 + 1) h11
    )
def f_X3_tryPlacement (o : Nat) (a1 : Int64) (a3 : Int32) (h : Hp) : Option (Int64 × Hp) :=
  (rc 3 h o).bind fun _ =>
  bind2 (l_X3_tryPlacement_6 o a3 FU a1 (0 : Int32) h) fun v12 h13 =>
  some ((v12, h13))
set_option maxHeartbeats 2000000 in
set_option maxRecDepth 20000 in
theorem L_X3_tryPlacement_6 {g : GT} {Γ : CT} {Q : State → Prop} {mc ms : Nat} (C : Cx g Γ cX3_tryPlacement RX3 "tryPlacement" 7 (some .long) 7 mc ms) {p0 : Nat} {p3 : Int32} : ∀ {fuel : Nat} {x4 : Int64} {x6 : Int32} {h : Hp} {y4 : Int64} {hy : Hp}, l_X3_tryPlacement_6 p0 p3 fuel x4 x6 h = some (y4, hy) → U g Γ 7 Q 0 0 64 [(4, .long y4)] [] hy → U g Γ 7 Q 0 0 6 [(0, .ref p0), (3, .int p3), (4, .long x4), (6, .int x6)] [] h := by
  intro fuel
  induction fuel with
  | zero =>
    intro x4 x6 h y4 hy hf J0
    simp only [l_X3_tryPlacement_6, reduceCtorEq] at hf
  | succ fuel ih =>
    intro x4 x6 h y4 hy hf J0
    rw [l_X3_tryPlacement_6] at hf
    refine U_iload (n := 8) 3 C dX3_tryPlacement_6 rfl rfl ?_
    refine U_aload_n (n := 9) 0 C dX3_tryPlacement_8 rfl rfl rfl ?_
    refine gf_RX3_10 (n := 12) C dX3_tryPlacement_9 hf rfl (fun v1 hf => ?_)
    refine gf_RX3_163 (n := 15) C dX3_tryPlacement_12 hf rfl (fun v2 hf => ?_)
    refine U_icge (tgt := 64) (n := 18) C dX3_tryPlacement_15 (by decide) rfl (fun c3 => ?_) (fun c3 => ?_)
    · replace hf := (if_pos c3).symm.trans hf
      obtain ⟨hr0, hs0⟩ := Prod.mk.inj (Option.some.inj hf)
      subst hr0
      subst hs0
      exact U_lv [2] rfl J0
    · replace hf := (if_neg c3).symm.trans hf
      refine U_lload (n := 20) 2 C dX3_tryPlacement_18 rfl rfl ?_
      obtain ⟨v4, ev4, hf⟩ := bsome hf
      refine cv_RX3_379 (n := 23) C dX3_tryPlacement_20 (av := [.long x4]) rfl (M_X3_nextRandom ev4) (Nat.le_of_ble_eq_true rfl) (Nat.zero_le _) (Nat.zero_le _) (Nat.le_of_ble_eq_true rfl) rfl ?_
      refine U_lstore (n := 25) (lv2 := [(4, .long v4), (0, .ref p0), (3, .int p3), (6, .int x6)]) C dX3_tryPlacement_23 (by decide) rfl rfl ?_
      refine U_aload_n (n := 26) 1 C dX3_tryPlacement_25 rfl rfl rfl ?_
      refine gf_RX3_48 (n := 29) C dX3_tryPlacement_26 hf rfl (fun v5 hf => ?_)
      refine U_iload (n := 31) 3 C dX3_tryPlacement_29 rfl rfl ?_
      refine U_lload (n := 33) 0 C dX3_tryPlacement_31 rfl rfl ?_
      refine U_iload_n (n := 34) 2 C dX3_tryPlacement_33 rfl rfl ?_
      obtain ⟨v6, ev6, hf⟩ := bsome hf
      refine cv_RX3_383 (n := 37) C dX3_tryPlacement_34 (av := [.long v4, .int p3]) rfl (M_X3_randomCoordinate ev6) (Nat.le_of_ble_eq_true rfl) (Nat.zero_le _) (Nat.zero_le _) (Nat.le_of_ble_eq_true rfl) rfl ?_
      refine U_iast (n := 38) C dX3_tryPlacement_37 hf rfl (fun h7 hf => ?_)
      refine U_lload (n := 40) 0 C dX3_tryPlacement_38 rfl rfl ?_
      obtain ⟨v8, ev8, hf⟩ := bsome hf
      refine cv_RX3_379 (n := 43) C dX3_tryPlacement_40 (av := [.long v4]) rfl (M_X3_nextRandom ev8) (Nat.le_of_ble_eq_true rfl) (Nat.zero_le _) (Nat.zero_le _) (Nat.le_of_ble_eq_true rfl) rfl ?_
      refine U_lstore (n := 45) (lv2 := [(4, .long v8), (0, .ref p0), (3, .int p3), (6, .int x6)]) C dX3_tryPlacement_43 (by decide) rfl rfl ?_
      refine U_aload_n (n := 46) 1 C dX3_tryPlacement_45 rfl rfl rfl ?_
      refine gf_RX3_51 (n := 49) C dX3_tryPlacement_46 hf rfl (fun v9 hf => ?_)
      refine U_iload (n := 51) 3 C dX3_tryPlacement_49 rfl rfl ?_
      refine U_lload (n := 53) 0 C dX3_tryPlacement_51 rfl rfl ?_
      refine U_iload_n (n := 54) 2 C dX3_tryPlacement_53 rfl rfl ?_
      obtain ⟨v10, ev10, hf⟩ := bsome hf
      refine cv_RX3_383 (n := 57) C dX3_tryPlacement_54 (av := [.long v8, .int p3]) rfl (M_X3_randomCoordinate ev10) (Nat.le_of_ble_eq_true rfl) (Nat.zero_le _) (Nat.zero_le _) (Nat.le_of_ble_eq_true rfl) rfl ?_
      refine U_iast (n := 58) C dX3_tryPlacement_57 hf rfl (fun h11 hf => ?_)
      refine U_iinc (n := 61) (v := (x6 + 1)) (lv2 := [(6, .int (x6 + 1)), (4, .long v8), (0, .ref p0), (3, .int p3)]) 3 C dX3_tryPlacement_58 rfl rfl (by decide) rfl rfl ?_
      refine U_goto (n := 0) (tgt := 6) C dX3_tryPlacement_61 (by decide) ?_
      exact U_lv [2, 3, 1, 0] rfl (ih hf J0)
theorem rc_X3_tryPlacement {o : Nat} {a1 : Int64} {a3 : Int32} {h : Hp} {z} (hf : f_X3_tryPlacement o a1 a3 h = some z) : rc 3 h o = some () := by
  unfold f_X3_tryPlacement at hf
  exact (bsome hf).choose_spec.1
set_option maxHeartbeats 2000000 in
set_option maxRecDepth 20000 in
theorem M_X3_tryPlacement {g : GT} {o : Nat} {a1 : Int64} {a3 : Int32} {h : Hp} {r : Int64} {h2 : Hp} (hf : f_X3_tryPlacement o a1 a3 h = some (r, h2)) : CM g yX3_tryPlacement cX3_tryPlacement 7 (some .long) 7 0 0 [.ref o, .long a1, .int a3] h (.inr (some (.long r))) h2 := by
  refine CM_of rfl (fun _ => Nat.le_of_ble_eq_true rfl) (fun Γ C hn0 => ?_)
  have C : Cx g Γ cX3_tryPlacement RX3 "tryPlacement" 7 (some .long) 7 0 0 := C
  generalize hQ : Qe g Γ (.inr (some (.long r))) h2 0 0 = Q
  show U g Γ 7 Q 0 0 0 [(0, .ref o), (1, .long a1), (3, .int a3)] [] h
  unfold f_X3_tryPlacement at hf
  replace hf := (bsome hf).choose_spec.2
  refine U_lload_n (n := 1) 1 C dX3_tryPlacement_0 rfl rfl ?_
  refine U_lstore (n := 3) (lv2 := [(4, .long a1), (0, .ref o), (1, .long a1), (3, .int a3)]) C dX3_tryPlacement_1 (by decide) rfl rfl ?_
  refine U_iconst (n := 4) (0 : Int32) C dX3_tryPlacement_3 kiconst_0 rfl ?_
  refine U_istore (n := 6) (lv2 := [(6, .int (0 : Int32)), (4, .long a1), (0, .ref o), (1, .long a1), (3, .int a3)]) C dX3_tryPlacement_4 (by decide) rfl rfl ?_
  refine U_join2 (fun v12 h13 => U g Γ 7 Q 0 0 64 [(4, .long v12)] [] h13) hf (fun v12 h13 hf => ?_) (fun v12 h13 hf J => U_lv [2, 4, 1, 0] rfl (L_X3_tryPlacement_6 C hf J))
  refine U_lload (n := 66) 0 C dX3_tryPlacement_64 rfl rfl ?_
  obtain ⟨hr1, hr2⟩ := Prod.mk.inj (Option.some.inj hf)
  subst hr1; subst hr2
  subst hQ
  exact U_lret C dX3_tryPlacement_66 (Nat.le_refl 0) (Nat.le_refl 0)
def f_X3_copyPoints (o : Nat) (a1 : Nat) (a2 : Nat) (a3 : Nat) (a4 : Nat) (h : Hp) : Option Hp :=
  (rc 3 h o).bind fun _ =>
  (fR 3 0 h o).bind fun v1 =>
  (fI 0 0 h v1).bind fun v2 =>
  (cpI h a1 (0 : Int32) a3 (0 : Int32) v2).bind fun h3 =>
  (fR 3 0 h3 o).bind fun v4 =>
  (fI 0 0 h3 v4).bind fun v5 =>
  (cpI h3 a2 (0 : Int32) a4 (0 : Int32) v5).bind fun h6 =>
  some (h6)
theorem rc_X3_copyPoints {o : Nat} {a1 : Nat} {a2 : Nat} {a3 : Nat} {a4 : Nat} {h : Hp} {z} (hf : f_X3_copyPoints o a1 a2 a3 a4 h = some z) : rc 3 h o = some () := by
  unfold f_X3_copyPoints at hf
  exact (bsome hf).choose_spec.1
set_option maxHeartbeats 2000000 in
set_option maxRecDepth 20000 in
theorem M_X3_copyPoints {g : GT} {o : Nat} {a1 : Nat} {a2 : Nat} {a3 : Nat} {a4 : Nat} {h : Hp} {h2 : Hp} (hf : f_X3_copyPoints o a1 a2 a3 a4 h = some h2) : CM g yX3_copyPoints cX3_copyPoints 5 none 6 0 0 [.ref o, .ref a1, .ref a2, .ref a3, .ref a4] h (.inr none) h2 := by
  refine CM_of rfl (fun _ => Nat.le_of_ble_eq_true rfl) (fun Γ C hn0 => ?_)
  have C : Cx g Γ cX3_copyPoints RX3 "copyPoints" 5 none 6 0 0 := C
  generalize hQ : Qe g Γ (.inr none) h2 0 0 = Q
  show U g Γ 5 Q 0 0 0 [(0, .ref o), (1, .ref a1), (2, .ref a2), (3, .ref a3), (4, .ref a4)] [] h
  unfold f_X3_copyPoints at hf
  replace hf := (bsome hf).choose_spec.2
  refine U_aload_n (n := 1) 1 C dX3_copyPoints_0 rfl rfl rfl ?_
  refine U_iconst (n := 2) (0 : Int32) C dX3_copyPoints_1 kiconst_0 rfl ?_
  refine U_aload_n (n := 3) 3 C dX3_copyPoints_2 rfl rfl rfl ?_
  refine U_iconst (n := 4) (0 : Int32) C dX3_copyPoints_3 kiconst_0 rfl ?_
  refine U_aload_n (n := 5) 0 C dX3_copyPoints_4 rfl rfl rfl ?_
  refine gf_RX3_10 (n := 8) C dX3_copyPoints_5 hf rfl (fun v1 hf => ?_)
  refine gf_RX3_163 (n := 11) C dX3_copyPoints_8 hf rfl (fun v2 hf => ?_)
  refine U_copyI (n := 14) C dX3_copyPoints_11 ml_sys_RX3_387 sys_n sys_s sys_i (Nat.le_of_ble_eq_true rfl) hf rfl (fun h3 hf => ?_)
  refine U_aload_n (n := 15) 2 C dX3_copyPoints_14 rfl rfl rfl ?_
  refine U_iconst (n := 16) (0 : Int32) C dX3_copyPoints_15 kiconst_0 rfl ?_
  refine U_aload (n := 18) 4 C dX3_copyPoints_16 rfl rfl rfl ?_
  refine U_iconst (n := 19) (0 : Int32) C dX3_copyPoints_18 kiconst_0 rfl ?_
  refine U_aload_n (n := 20) 0 C dX3_copyPoints_19 rfl rfl rfl ?_
  refine gf_RX3_10 (n := 23) C dX3_copyPoints_20 hf rfl (fun v4 hf => ?_)
  refine gf_RX3_163 (n := 26) C dX3_copyPoints_23 hf rfl (fun v5 hf => ?_)
  refine U_copyI (n := 29) C dX3_copyPoints_26 ml_sys_RX3_387 sys_n sys_s sys_i (Nat.le_of_ble_eq_true rfl) hf rfl (fun h6 hf => ?_)
  have hr := (Option.some.inj hf)
  subst hr
  subst hQ
  exact U_vret C dX3_copyPoints_29 (Nat.le_refl 0) (Nat.le_refl 0)
def l_X3_scatter_77 (p0 : Nat) (p2 : Int32) (p3 : Int32) : Nat → Int32 → Int64 → Int32 → Hp → Option (Int32 × Hp)
  | 0, _, _, _, _ => none
  | fuel + 1, x4, x5, x7, h =>
    if p2 ≤ x7 then (
      some ((x4, h))
    ) else (
      bind2 (f_X3_tryPlacement p0 x5 p3 h) fun v10 h11 =>
      (fR 3 8 h11 p0).bind fun v12 =>
      (fR 3 9 h11 p0).bind fun v13 =>
      (f_X3_mismatchesAt p0 v12 v13 h11).bind fun v14 =>
      bind2 (
        if x4 ≤ v14 then (
          some ((x4, h11))
        ) else (
          (fR 3 8 h11 p0).bind fun v21 =>
          (fR 3 9 h11 p0).bind fun v22 =>
          (fR 3 10 h11 p0).bind fun v23 =>
          (fR 3 11 h11 p0).bind fun v24 =>
          (f_X3_copyPoints p0 v21 v22 v23 v24 h11).bind fun h26 =>
          some ((v14, h26))
        )
      ) fun v16 h17 =>
      l_X3_scatter_77 p0 p2 p3 fuel v16 v10 (x7 + 1) h17
    )
def f_X3_scatter (o : Nat) (a1 : Int32) (a2 : Int32) (a3 : Int32) (h : Hp) : Option ((Nat ⊕ Int32) × Hp) :=
  (rc 3 h o).bind fun _ =>
  if a1 < 0 then (
    some ((.inl 0, h))
  ) else (
    if a1 ≤ (999999 : Int32) then (
      if a2 < (1 : Int32) then (
        some ((.inl 0, h))
      ) else (
        if a2 ≤ (50 : Int32) then (
          if a3 < (1 : Int32) then (
            some ((.inl 0, h))
          ) else (
            if a3 ≤ (50 : Int32) then (
              (f_X3_save o h).bind fun h8 =>
              bind2 (l_X3_scatter_77 o a2 a3 FU (57 : Int32) (a1).toInt64 (0 : Int32) h8) fun v27 h28 =>
              (fR 3 10 h28 o).bind fun v29 =>
              (fR 3 11 h28 o).bind fun v30 =>
              (fR 3 1 h28 o).bind fun v31 =>
              (fR 2 8 h28 v31).bind fun v32 =>
              (fR 3 1 h28 o).bind fun v33 =>
              (fR 2 9 h28 v33).bind fun v34 =>
              (f_X3_copyPoints o v29 v30 v32 v34 h28).bind fun h36 =>
              some ((.inr v27, h36))
            ) else (
              some ((.inl 0, h))
            )
          )
        ) else (
          some ((.inl 0, h))
        )
      )
    ) else (
      some ((.inl 0, h))
    )
  )
set_option maxHeartbeats 2000000 in
set_option maxRecDepth 20000 in
theorem L_X3_scatter_77 {g : GT} {Γ : CT} {Q : State → Prop} {mc ms : Nat} (C : Cx g Γ cX3_scatter RX3 "scatter" 9 (some .int) 9 mc ms) {p0 : Nat} {p2 : Int32} {p3 : Int32} : ∀ {fuel : Nat} {x4 : Int32} {x5 : Int64} {x7 : Int32} {h : Hp} {y4 : Int32} {hy : Hp}, l_X3_scatter_77 p0 p2 p3 fuel x4 x5 x7 h = some (y4, hy) → U g Γ 9 Q 0 0 143 [(0, .ref p0), (4, .int y4)] [] hy → U g Γ 9 Q 0 0 77 [(0, .ref p0), (2, .int p2), (3, .int p3), (4, .int x4), (5, .long x5), (7, .int x7)] [] h := by
  intro fuel
  induction fuel with
  | zero =>
    intro x4 x5 x7 h y4 hy hf J0
    simp only [l_X3_scatter_77, reduceCtorEq] at hf
  | succ fuel ih =>
    intro x4 x5 x7 h y4 hy hf J0
    rw [l_X3_scatter_77] at hf
    refine U_iload (n := 79) 5 C dX3_scatter_77 rfl rfl ?_
    refine U_iload_n (n := 80) 1 C dX3_scatter_79 rfl rfl ?_
    refine U_icge (tgt := 143) (n := 83) C dX3_scatter_80 (by decide) rfl (fun c9 => ?_) (fun c9 => ?_)
    · replace hf := (if_pos c9).symm.trans hf
      obtain ⟨hr0, hs0⟩ := Prod.mk.inj (Option.some.inj hf)
      subst hr0
      subst hs0
      exact U_lv [0, 3] rfl J0
    · replace hf := (if_neg c9).symm.trans hf
      refine U_aload_n (n := 84) 0 C dX3_scatter_83 rfl rfl rfl ?_
      refine U_lload (n := 86) 4 C dX3_scatter_84 rfl rfl ?_
      refine U_iload_n (n := 87) 2 C dX3_scatter_86 rfl rfl ?_
      obtain ⟨v10, h11, ev10, hf⟩ := bsome2 hf
      refine cv_RX3_240 (n := 90) C dX3_scatter_87 (av := [.long x5, .int p3]) rfl (rc_X3_tryPlacement ev10) (M_X3_tryPlacement ev10) (Nat.le_of_ble_eq_true rfl) (Nat.zero_le _) (Nat.zero_le _) (Nat.le_of_ble_eq_true rfl) rfl ?_
      refine U_lstore (n := 92) (lv2 := [(5, .long v10), (0, .ref p0), (2, .int p2), (3, .int p3), (4, .int x4), (7, .int x7)]) C dX3_scatter_90 (by decide) rfl rfl ?_
      refine U_aload_n (n := 93) 1 C dX3_scatter_92 rfl rfl rfl ?_
      refine U_aload_n (n := 94) 1 C dX3_scatter_93 rfl rfl rfl ?_
      refine gf_RX3_48 (n := 97) C dX3_scatter_94 hf rfl (fun v12 hf => ?_)
      refine U_aload_n (n := 98) 1 C dX3_scatter_97 rfl rfl rfl ?_
      refine gf_RX3_51 (n := 101) C dX3_scatter_98 hf rfl (fun v13 hf => ?_)
      obtain ⟨v14, ev14, hf⟩ := bsome hf
      refine cv_RX3_229 (n := 104) C dX3_scatter_101 (av := [.ref v12, .ref v13]) rfl (rc_X3_mismatchesAt ev14) (M_X3_mismatchesAt ev14) (Nat.le_of_ble_eq_true rfl) (Nat.zero_le _) (Nat.zero_le _) (Nat.le_of_ble_eq_true rfl) rfl ?_
      refine U_istore (n := 106) (lv2 := [(8, .int v14), (5, .long v10), (0, .ref p0), (2, .int p2), (3, .int p3), (4, .int x4), (7, .int x7)]) C dX3_scatter_104 (by decide) rfl rfl ?_
      refine U_iload (n := 108) 0 C dX3_scatter_106 rfl rfl ?_
      refine U_iload (n := 110) 5 C dX3_scatter_108 rfl rfl ?_
      refine U_join2 (fun v16 h17 => U g Γ 9 Q 0 0 137 [(0, .ref p0), (2, .int p2), (3, .int p3), (4, .int v16), (5, .long v10), (7, .int x7)] [] h17) hf (fun v16 h17 hf => ?_) (fun v16 h17 hf J19 => ?_)
      · skip
        refine U_iinc (n := 140) (v := (x7 + 1)) (lv2 := [(7, .int (x7 + 1)), (0, .ref p0), (2, .int p2), (3, .int p3), (4, .int v16), (5, .long v10)]) 5 C dX3_scatter_137 rfl rfl (by decide) rfl rfl ?_
        refine U_goto (n := 0) (tgt := 77) C dX3_scatter_140 (by decide) ?_
        exact U_lv [1, 2, 3, 4, 5, 0] rfl (ih hf J0)
      · skip
        refine U_icge (tgt := 137) (n := 113) C dX3_scatter_110 (by decide) rfl (fun c15 => ?_) (fun c15 => ?_)
        · replace hf := (if_pos c15).symm.trans hf
          obtain ⟨hr0, hs0⟩ := Prod.mk.inj (Option.some.inj hf)
          subst hr0
          subst hs0
          exact U_lv [2, 3, 4, 5, 1, 6] rfl J19
        · replace hf := (if_neg c15).symm.trans hf
          refine U_iload (n := 115) 0 C dX3_scatter_113 rfl rfl ?_
          refine U_istore (n := 117) (lv2 := [(4, .int v14), (8, .int v14), (5, .long v10), (0, .ref p0), (2, .int p2), (3, .int p3), (7, .int x7)]) C dX3_scatter_115 (by decide) rfl rfl ?_
          refine U_aload_n (n := 118) 3 C dX3_scatter_117 rfl rfl rfl ?_
          refine U_aload_n (n := 119) 3 C dX3_scatter_118 rfl rfl rfl ?_
          refine gf_RX3_48 (n := 122) C dX3_scatter_119 hf rfl (fun v21 hf => ?_)
          refine U_aload_n (n := 123) 3 C dX3_scatter_122 rfl rfl rfl ?_
          refine gf_RX3_51 (n := 126) C dX3_scatter_123 hf rfl (fun v22 hf => ?_)
          refine U_aload_n (n := 127) 3 C dX3_scatter_126 rfl rfl rfl ?_
          refine gf_RX3_54 (n := 130) C dX3_scatter_127 hf rfl (fun v23 hf => ?_)
          refine U_aload_n (n := 131) 3 C dX3_scatter_130 rfl rfl rfl ?_
          refine gf_RX3_57 (n := 134) C dX3_scatter_131 hf rfl (fun v24 hf => ?_)
          obtain ⟨h26, ev25, hf⟩ := bsome hf
          refine cv_RX3_244 (n := 137) C dX3_scatter_134 (av := [.ref v21, .ref v22, .ref v23, .ref v24]) rfl (rc_X3_copyPoints ev25) (M_X3_copyPoints ev25) (Nat.le_of_ble_eq_true rfl) (Nat.zero_le _) (Nat.zero_le _) (Nat.le_of_ble_eq_true rfl) rfl ?_
          obtain ⟨hr0, hs0⟩ := Prod.mk.inj (Option.some.inj hf)
          subst hr0
          subst hs0
          exact U_lv [3, 4, 5, 0, 2, 6] rfl J19
theorem rc_X3_scatter {o : Nat} {a1 : Int32} {a2 : Int32} {a3 : Int32} {h : Hp} {z} (hf : f_X3_scatter o a1 a2 a3 h = some z) : rc 3 h o = some () := by
  unfold f_X3_scatter at hf
  exact (bsome hf).choose_spec.1
set_option maxHeartbeats 2000000 in
set_option maxRecDepth 20000 in
theorem M_X3_scatter {g : GT} {o : Nat} {a1 : Int32} {a2 : Int32} {a3 : Int32} {h : Hp} {r : (Nat ⊕ Int32)} {h2 : Hp} (hf : f_X3_scatter o a1 a2 a3 h = some (r, h2)) : CM g yX3_scatter cX3_scatter 9 (some .int) 9 0 0 [.ref o, .int a1, .int a2, .int a3] h (rI r) h2 := by
  refine CM_of rfl (fun _ => Nat.le_of_ble_eq_true rfl) (fun Γ C hn0 => ?_)
  have C : Cx g Γ cX3_scatter RX3 "scatter" 9 (some .int) 9 (0 + er (rI r)) (0 + 6 * er (rI r)) := C
  generalize hQ : Qe g Γ (rI r) h2 0 0 = Q
  show U g Γ 9 Q 0 0 0 [(0, .ref o), (1, .int a1), (2, .int a2), (3, .int a3)] [] h
  unfold f_X3_scatter at hf
  replace hf := (bsome hf).choose_spec.2
  refine U_iload_n (n := 1) 1 C dX3_scatter_0 rfl rfl ?_
  refine U_iflt (tgt := 10) (n := 4) C dX3_scatter_1 (by decide) rfl (fun c1 => ?_) (fun c1 => ?_)
  · replace hf := (if_pos c1).symm.trans hf
    obtain ⟨hr1, hr2⟩ := Prod.mk.inj (Option.some.inj hf)
    subst hr1; subst hr2
    subst hQ
    exact U_throw 0 C xown_RX3 rfl xfit_0 xcl_0 xin_0 xsr_234 xat_0 xgood_0 dX3_scatter_10 dX3_scatter_13 dX3_scatter_14 dX3_scatter_16 dX3_scatter_19 (Nat.le_of_ble_eq_true rfl) (Nat.le_refl _) (Nat.le_refl _) rfl rfl
  · replace hf := (if_neg c1).symm.trans hf
    refine U_iload_n (n := 5) 1 C dX3_scatter_4 rfl rfl ?_
    refine U_ldc (n := 7) (999999 : Int32) C dX3_scatter_5 ct_RX3_233 rfl ?_
    refine U_icle (tgt := 20) (n := 10) C dX3_scatter_7 (by decide) rfl (fun c2 => ?_) (fun c2 => ?_)
    · replace hf := (if_pos c2).symm.trans hf
      refine U_iload_n (n := 21) 2 C dX3_scatter_20 rfl rfl ?_
      refine U_iconst (n := 22) (1 : Int32) C dX3_scatter_21 kiconst_1 rfl ?_
      refine U_iclt (tgt := 31) (n := 25) C dX3_scatter_22 (by decide) rfl (fun c3 => ?_) (fun c3 => ?_)
      · replace hf := (if_pos c3).symm.trans hf
        obtain ⟨hr1, hr2⟩ := Prod.mk.inj (Option.some.inj hf)
        subst hr1; subst hr2
        subst hQ
        exact U_throw 0 C xown_RX3 rfl xfit_0 xcl_0 xin_0 xsr_236 xat_0 xgood_0 dX3_scatter_31 dX3_scatter_34 dX3_scatter_35 dX3_scatter_37 dX3_scatter_40 (Nat.le_of_ble_eq_true rfl) (Nat.le_refl _) (Nat.le_refl _) rfl rfl
      · replace hf := (if_neg c3).symm.trans hf
        refine U_iload_n (n := 26) 2 C dX3_scatter_25 rfl rfl ?_
        refine U_bipush (n := 28) (50 : Int32) C dX3_scatter_26 kbipush_50 rfl ?_
        refine U_icle (tgt := 41) (n := 31) C dX3_scatter_28 (by decide) rfl (fun c4 => ?_) (fun c4 => ?_)
        · replace hf := (if_pos c4).symm.trans hf
          refine U_iload_n (n := 42) 3 C dX3_scatter_41 rfl rfl ?_
          refine U_iconst (n := 43) (1 : Int32) C dX3_scatter_42 kiconst_1 rfl ?_
          refine U_iclt (tgt := 52) (n := 46) C dX3_scatter_43 (by decide) rfl (fun c5 => ?_) (fun c5 => ?_)
          · replace hf := (if_pos c5).symm.trans hf
            obtain ⟨hr1, hr2⟩ := Prod.mk.inj (Option.some.inj hf)
            subst hr1; subst hr2
            subst hQ
            exact U_throw 0 C xown_RX3 rfl xfit_0 xcl_0 xin_0 xsr_238 xat_0 xgood_0 dX3_scatter_52 dX3_scatter_55 dX3_scatter_56 dX3_scatter_58 dX3_scatter_61 (Nat.le_of_ble_eq_true rfl) (Nat.le_refl _) (Nat.le_refl _) rfl rfl
          · replace hf := (if_neg c5).symm.trans hf
            refine U_iload_n (n := 47) 3 C dX3_scatter_46 rfl rfl ?_
            refine U_bipush (n := 49) (50 : Int32) C dX3_scatter_47 kbipush_50 rfl ?_
            refine U_icle (tgt := 62) (n := 52) C dX3_scatter_49 (by decide) rfl (fun c6 => ?_) (fun c6 => ?_)
            · replace hf := (if_pos c6).symm.trans hf
              refine U_aload_n (n := 63) 0 C dX3_scatter_62 rfl rfl rfl ?_
              obtain ⟨h8, ev7, hf⟩ := bsome hf
              refine cv_RX3_74 (n := 66) C dX3_scatter_63 (av := []) rfl (rc_X3_save ev7) (M_X3_save ev7) (Nat.le_of_ble_eq_true rfl) (Nat.zero_le _) (Nat.zero_le _) (Nat.le_of_ble_eq_true rfl) rfl ?_
              refine U_bipush (n := 68) (57 : Int32) C dX3_scatter_66 kbipush_57 rfl ?_
              refine U_istore (n := 70) (lv2 := [(4, .int (57 : Int32)), (0, .ref o), (1, .int a1), (2, .int a2), (3, .int a3)]) C dX3_scatter_68 (by decide) rfl rfl ?_
              refine U_iload_n (n := 71) 2 C dX3_scatter_70 rfl rfl ?_
              refine U_i2l (n := 72) C dX3_scatter_71 rfl ?_
              refine U_lstore (n := 74) (lv2 := [(5, .long (a1).toInt64), (4, .int (57 : Int32)), (0, .ref o), (1, .int a1), (2, .int a2), (3, .int a3)]) C dX3_scatter_72 (by decide) rfl rfl ?_
              refine U_iconst (n := 75) (0 : Int32) C dX3_scatter_74 kiconst_0 rfl ?_
              refine U_istore (n := 77) (lv2 := [(7, .int (0 : Int32)), (5, .long (a1).toInt64), (4, .int (57 : Int32)), (0, .ref o), (1, .int a1), (2, .int a2), (3, .int a3)]) C dX3_scatter_75 (by decide) rfl rfl ?_
              refine U_join2 (fun v27 h28 => U g Γ 9 Q 0 0 143 [(0, .ref o), (4, .int v27)] [] h28) hf (fun v27 h28 hf => ?_) (fun v27 h28 hf J => U_lv [3, 5, 6, 2, 1, 0] rfl (L_X3_scatter_77 C hf J))
              refine U_aload_n (n := 144) 0 C dX3_scatter_143 rfl rfl rfl ?_
              refine U_aload_n (n := 145) 0 C dX3_scatter_144 rfl rfl rfl ?_
              refine gf_RX3_54 (n := 148) C dX3_scatter_145 hf rfl (fun v29 hf => ?_)
              refine U_aload_n (n := 149) 0 C dX3_scatter_148 rfl rfl rfl ?_
              refine gf_RX3_57 (n := 152) C dX3_scatter_149 hf rfl (fun v30 hf => ?_)
              refine U_aload_n (n := 153) 0 C dX3_scatter_152 rfl rfl rfl ?_
              refine gf_RX3_19 (n := 156) C dX3_scatter_153 hf rfl (fun v31 hf => ?_)
              refine gf_RX3_216 (n := 159) C dX3_scatter_156 hf rfl (fun v32 hf => ?_)
              refine U_aload_n (n := 160) 0 C dX3_scatter_159 rfl rfl rfl ?_
              refine gf_RX3_19 (n := 163) C dX3_scatter_160 hf rfl (fun v33 hf => ?_)
              refine gf_RX3_219 (n := 166) C dX3_scatter_163 hf rfl (fun v34 hf => ?_)
              obtain ⟨h36, ev35, hf⟩ := bsome hf
              refine cv_RX3_244 (n := 169) C dX3_scatter_166 (av := [.ref v29, .ref v30, .ref v32, .ref v34]) rfl (rc_X3_copyPoints ev35) (M_X3_copyPoints ev35) (Nat.le_of_ble_eq_true rfl) (Nat.zero_le _) (Nat.zero_le _) (Nat.le_of_ble_eq_true rfl) rfl ?_
              refine U_iload (n := 171) 1 C dX3_scatter_169 rfl rfl ?_
              obtain ⟨hr1, hr2⟩ := Prod.mk.inj (Option.some.inj hf)
              subst hr1; subst hr2
              subst hQ
              exact U_iret C dX3_scatter_171 (Nat.le_refl 0) (Nat.le_refl 0)
            · replace hf := (if_neg c6).symm.trans hf
              obtain ⟨hr1, hr2⟩ := Prod.mk.inj (Option.some.inj hf)
              subst hr1; subst hr2
              subst hQ
              exact U_throw 0 C xown_RX3 rfl xfit_0 xcl_0 xin_0 xsr_238 xat_0 xgood_0 dX3_scatter_52 dX3_scatter_55 dX3_scatter_56 dX3_scatter_58 dX3_scatter_61 (Nat.le_of_ble_eq_true rfl) (Nat.le_refl _) (Nat.le_refl _) rfl rfl
        · replace hf := (if_neg c4).symm.trans hf
          obtain ⟨hr1, hr2⟩ := Prod.mk.inj (Option.some.inj hf)
          subst hr1; subst hr2
          subst hQ
          exact U_throw 0 C xown_RX3 rfl xfit_0 xcl_0 xin_0 xsr_236 xat_0 xgood_0 dX3_scatter_31 dX3_scatter_34 dX3_scatter_35 dX3_scatter_37 dX3_scatter_40 (Nat.le_of_ble_eq_true rfl) (Nat.le_refl _) (Nat.le_refl _) rfl rfl
    · replace hf := (if_neg c2).symm.trans hf
      obtain ⟨hr1, hr2⟩ := Prod.mk.inj (Option.some.inj hf)
      subst hr1; subst hr2
      subst hQ
      exact U_throw 0 C xown_RX3 rfl xfit_0 xcl_0 xin_0 xsr_234 xat_0 xgood_0 dX3_scatter_10 dX3_scatter_13 dX3_scatter_14 dX3_scatter_16 dX3_scatter_19 (Nat.le_of_ble_eq_true rfl) (Nat.le_refl _) (Nat.le_refl _) rfl rfl
def f_X3_type (o : Nat) (a1 : Int32) (h : Hp) : Option ((Nat ⊕ Int32) × Hp) :=
  (rc 3 h o).bind fun _ =>
  if a1 < 0 then (
    some ((.inl 0, h))
  ) else (
    if a1 ≤ (127 : Int32) then (
      (fR 3 2 h o).bind fun v3 =>
      (fI 1 1 h v3).bind fun v4 =>
      if v4 < (120 : Int32) then (
        (fR 3 2 h o).bind fun v6 =>
        (fR 1 0 h v6).bind fun v7 =>
        (fR 3 2 h o).bind fun v8 =>
        (fI 1 1 h v8).bind fun v9 =>
        (wI h v7 v9 a1).bind fun h10 =>
        (fR 3 2 h10 o).bind fun v11 =>
        (fI 1 1 h10 v11).bind fun v12 =>
        (sF 1 1 (.int (v12 + (1 : Int32))) h10 v11).bind fun h13 =>
        (fR 3 2 h13 o).bind fun v14 =>
        (fI 1 1 h13 v14).bind fun v15 =>
        some ((.inr v15, h13))
      ) else (
        some ((.inl 2, h))
      )
    ) else (
      some ((.inl 0, h))
    )
  )
theorem rc_X3_type {o : Nat} {a1 : Int32} {h : Hp} {z} (hf : f_X3_type o a1 h = some z) : rc 3 h o = some () := by
  unfold f_X3_type at hf
  exact (bsome hf).choose_spec.1
set_option maxHeartbeats 2000000 in
set_option maxRecDepth 20000 in
theorem M_X3_type {g : GT} {o : Nat} {a1 : Int32} {h : Hp} {r : (Nat ⊕ Int32)} {h2 : Hp} (hf : f_X3_type o a1 h = some (r, h2)) : CM g yX3_type cX3_type 2 (some .int) 6 0 0 [.ref o, .int a1] h (rI r) h2 := by
  refine CM_of rfl (fun _ => Nat.le_of_ble_eq_true rfl) (fun Γ C hn0 => ?_)
  have C : Cx g Γ cX3_type RX3 "type" 2 (some .int) 6 (0 + er (rI r)) (0 + 6 * er (rI r)) := C
  generalize hQ : Qe g Γ (rI r) h2 0 0 = Q
  show U g Γ 2 Q 0 0 0 [(0, .ref o), (1, .int a1)] [] h
  unfold f_X3_type at hf
  replace hf := (bsome hf).choose_spec.2
  refine U_iload_n (n := 1) 1 C dX3_type_0 rfl rfl ?_
  refine U_iflt (tgt := 10) (n := 4) C dX3_type_1 (by decide) rfl (fun c1 => ?_) (fun c1 => ?_)
  · replace hf := (if_pos c1).symm.trans hf
    obtain ⟨hr1, hr2⟩ := Prod.mk.inj (Option.some.inj hf)
    subst hr1; subst hr2
    subst hQ
    exact U_throw 0 C xown_RX3 rfl xfit_0 xcl_0 xin_0 xsr_248 xat_0 xgood_0 dX3_type_10 dX3_type_13 dX3_type_14 dX3_type_16 dX3_type_19 (Nat.le_of_ble_eq_true rfl) (Nat.le_refl _) (Nat.le_refl _) rfl rfl
  · replace hf := (if_neg c1).symm.trans hf
    refine U_iload_n (n := 5) 1 C dX3_type_4 rfl rfl ?_
    refine U_bipush (n := 7) (127 : Int32) C dX3_type_5 kbipush_127 rfl ?_
    refine U_icle (tgt := 20) (n := 10) C dX3_type_7 (by decide) rfl (fun c2 => ?_) (fun c2 => ?_)
    · replace hf := (if_pos c2).symm.trans hf
      refine U_aload_n (n := 21) 0 C dX3_type_20 rfl rfl rfl ?_
      refine gf_RX3_26 (n := 24) C dX3_type_21 hf rfl (fun v3 hf => ?_)
      refine gf_RX3_250 (n := 27) C dX3_type_24 hf rfl (fun v4 hf => ?_)
      refine U_bipush (n := 29) (120 : Int32) C dX3_type_27 kbipush_120 rfl ?_
      refine U_iclt (tgt := 42) (n := 32) C dX3_type_29 (by decide) rfl (fun c5 => ?_) (fun c5 => ?_)
      · replace hf := (if_pos c5).symm.trans hf
        refine U_aload_n (n := 43) 0 C dX3_type_42 rfl rfl rfl ?_
        refine gf_RX3_26 (n := 46) C dX3_type_43 hf rfl (fun v6 hf => ?_)
        refine gf_RX3_255 (n := 49) C dX3_type_46 hf rfl (fun v7 hf => ?_)
        refine U_aload_n (n := 50) 0 C dX3_type_49 rfl rfl rfl ?_
        refine gf_RX3_26 (n := 53) C dX3_type_50 hf rfl (fun v8 hf => ?_)
        refine gf_RX3_250 (n := 56) C dX3_type_53 hf rfl (fun v9 hf => ?_)
        refine U_iload_n (n := 57) 1 C dX3_type_56 rfl rfl ?_
        refine U_iast (n := 58) C dX3_type_57 hf rfl (fun h10 hf => ?_)
        refine U_aload_n (n := 59) 0 C dX3_type_58 rfl rfl rfl ?_
        refine gf_RX3_26 (n := 62) C dX3_type_59 hf rfl (fun v11 hf => ?_)
        refine U_dup (n := 63) C dX3_type_62 rfl rfl ?_
        refine gf_RX3_250 (n := 66) C dX3_type_63 hf rfl (fun v12 hf => ?_)
        refine U_iconst (n := 67) (1 : Int32) C dX3_type_66 kiconst_1 rfl ?_
        refine U_iadd (n := 68) C dX3_type_67 rfl ?_
        refine pf_RX3_250 (n := 71) C dX3_type_68 hf rfl (fun h13 hf => ?_)
        refine U_aload_n (n := 72) 0 C dX3_type_71 rfl rfl rfl ?_
        refine gf_RX3_26 (n := 75) C dX3_type_72 hf rfl (fun v14 hf => ?_)
        refine gf_RX3_250 (n := 78) C dX3_type_75 hf rfl (fun v15 hf => ?_)
        obtain ⟨hr1, hr2⟩ := Prod.mk.inj (Option.some.inj hf)
        subst hr1; subst hr2
        subst hQ
        exact U_iret C dX3_type_78 (Nat.le_refl 0) (Nat.le_refl 0)
      · replace hf := (if_neg c5).symm.trans hf
        obtain ⟨hr1, hr2⟩ := Prod.mk.inj (Option.some.inj hf)
        subst hr1; subst hr2
        subst hQ
        exact U_throw 2 C xown_RX3 rfl xfit_2 xcl_2 xin_2 xsr_253 xat_2 xgood_2 dX3_type_32 dX3_type_35 dX3_type_36 dX3_type_38 dX3_type_41 (Nat.le_of_ble_eq_true rfl) (Nat.le_refl _) (Nat.le_refl _) rfl rfl
    · replace hf := (if_neg c2).symm.trans hf
      obtain ⟨hr1, hr2⟩ := Prod.mk.inj (Option.some.inj hf)
      subst hr1; subst hr2
      subst hQ
      exact U_throw 0 C xown_RX3 rfl xfit_0 xcl_0 xin_0 xsr_248 xat_0 xgood_0 dX3_type_10 dX3_type_13 dX3_type_14 dX3_type_16 dX3_type_19 (Nat.le_of_ble_eq_true rfl) (Nat.le_refl _) (Nat.le_refl _) rfl rfl
def f_X3_clearScript (o : Nat) (h : Hp) : Option (Int32 × Hp) :=
  (rc 3 h o).bind fun _ =>
  (fR 3 2 h o).bind fun v1 =>
  (fI 1 1 h v1).bind fun v2 =>
  (fR 3 2 h o).bind fun v3 =>
  (sF 1 1 (.int (0 : Int32)) h v3).bind fun h4 =>
  some ((v2, h4))
theorem rc_X3_clearScript {o : Nat} {h : Hp} {z} (hf : f_X3_clearScript o h = some z) : rc 3 h o = some () := by
  unfold f_X3_clearScript at hf
  exact (bsome hf).choose_spec.1
set_option maxHeartbeats 2000000 in
set_option maxRecDepth 20000 in
theorem M_X3_clearScript {g : GT} {o : Nat} {h : Hp} {r : Int32} {h2 : Hp} (hf : f_X3_clearScript o h = some (r, h2)) : CM g yX3_clearScript cX3_clearScript 2 (some .int) 6 0 0 [.ref o] h (.inr (some (.int r))) h2 := by
  refine CM_of rfl (fun _ => Nat.le_of_ble_eq_true rfl) (fun Γ C hn0 => ?_)
  have C : Cx g Γ cX3_clearScript RX3 "clearScript" 2 (some .int) 6 0 0 := C
  generalize hQ : Qe g Γ (.inr (some (.int r))) h2 0 0 = Q
  show U g Γ 2 Q 0 0 0 [(0, .ref o)] [] h
  unfold f_X3_clearScript at hf
  replace hf := (bsome hf).choose_spec.2
  refine U_aload_n (n := 1) 0 C dX3_clearScript_0 rfl rfl rfl ?_
  refine gf_RX3_26 (n := 4) C dX3_clearScript_1 hf rfl (fun v1 hf => ?_)
  refine gf_RX3_250 (n := 7) C dX3_clearScript_4 hf rfl (fun v2 hf => ?_)
  refine U_istore_n (n := 8) (lv2 := [(1, .int v2), (0, .ref o)]) C dX3_clearScript_7 (by decide) rfl rfl ?_
  refine U_aload_n (n := 9) 1 C dX3_clearScript_8 rfl rfl rfl ?_
  refine gf_RX3_26 (n := 12) C dX3_clearScript_9 hf rfl (fun v3 hf => ?_)
  refine U_iconst (n := 13) (0 : Int32) C dX3_clearScript_12 kiconst_0 rfl ?_
  refine pf_RX3_250 (n := 16) C dX3_clearScript_13 hf rfl (fun h4 hf => ?_)
  refine U_iload_n (n := 17) 0 C dX3_clearScript_16 rfl rfl ?_
  obtain ⟨hr1, hr2⟩ := Prod.mk.inj (Option.some.inj hf)
  subst hr1; subst hr2
  subst hQ
  exact U_iret C dX3_clearScript_17 (Nat.le_refl 0) (Nat.le_refl 0)
