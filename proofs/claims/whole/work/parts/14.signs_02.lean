def f_X3_triple (o : Nat) (a1 : Int32) (a2 : Int32) (h : Hp) : Option (Nat ⊕ Int32) :=
  (rc 3 h o).bind fun _ =>
  bindT (f_X3_requireTriple o a1 h) (fun kv1 => some (.inl kv1)) fun v1 =>
  if a2 = 0 then (
    (fR 3 0 h o).bind fun v3 =>
    (f_X0_corner v3 a1 a2 h).bind fun v4 =>
    some (.inr v4)
  ) else (
  if a2 = 1 then (
    (fR 3 0 h o).bind fun v6 =>
    (f_X0_corner v6 a1 a2 h).bind fun v7 =>
    some (.inr v7)
  ) else (
  if a2 = 2 then (
    (fR 3 0 h o).bind fun v9 =>
    (f_X0_corner v9 a1 a2 h).bind fun v10 =>
    some (.inr v10)
  ) else (
  if a2 = 3 then (
    (fR 3 1 h o).bind fun v12 =>
    (fR 2 3 h v12).bind fun v13 =>
    (aI h v13 a1).bind fun v14 =>
    some (.inr v14)
  ) else (
  if a2 = 4 then (
    (fR 3 1 h o).bind fun v16 =>
    (fR 2 4 h v16).bind fun v17 =>
    (aI h v17 a1).bind fun v18 =>
    some (.inr v18)
  ) else (
  if a2 = 5 then (
    (fR 3 1 h o).bind fun v20 =>
    (fR 2 5 h v20).bind fun v21 =>
    (aI h v21 a1).bind fun v22 =>
    some (.inr v22)
  ) else (
  if a2 = 6 then (
    (fR 3 1 h o).bind fun v24 =>
    (fR 2 6 h v24).bind fun v25 =>
    (aI h v25 a1).bind fun v26 =>
    some (.inr v26)
  ) else (
    some (.inl 0)
  )))))))
theorem rc_X3_triple {o : Nat} {a1 : Int32} {a2 : Int32} {h : Hp} {z} (hf : f_X3_triple o a1 a2 h = some z) : rc 3 h o = some () := by
  unfold f_X3_triple at hf
  exact (bsome hf).choose_spec.1
set_option maxHeartbeats 2000000 in
set_option maxRecDepth 20000 in
theorem M_X3_triple {g : GT} {o : Nat} {a1 : Int32} {a2 : Int32} {h : Hp} {r : (Nat ⊕ Int32)} (hf : f_X3_triple o a1 a2 h = some r) : CM g yX3_triple cX3_triple 3 (some .int) 7 0 0 [.ref o, .int a1, .int a2] h (rI r) h := by
  refine CM_of rfl (fun _ => Nat.le_of_ble_eq_true rfl) (fun Γ C hn0 => ?_)
  have C : Cx g Γ cX3_triple RX3 "triple" 3 (some .int) 7 (0 + er (rI r)) (0 + 6 * er (rI r)) := C
  generalize hQ : Qe g Γ (rI r) h 0 0 = Q
  show U g Γ 3 Q 0 0 0 [(0, .ref o), (1, .int a1), (2, .int a2)] [] h
  unfold f_X3_triple at hf
  replace hf := (bsome hf).choose_spec.2
  refine U_aload_n (n := 1) 0 C dX3_triple_0 rfl rfl rfl ?_
  refine U_iload_n (n := 2) 1 C dX3_triple_1 rfl rfl ?_
  rcases bsomeT hf with ⟨kv1, ev1, hf⟩ | ⟨v1, ev1, hf⟩
  · skip
    have hr := (Option.some.inj hf)
    subst hr
    subst hQ
    exact xv_RX3_145 kv1 C dX3_triple_2 (av := [.int a1]) rfl (rc_X3_requireTriple ev1) (M_X3_requireTriple ev1) (Nat.le_of_ble_eq_true rfl) (Nat.le_of_ble_eq_true rfl)
  refine cv_RX3_145 (n := 5) C dX3_triple_2 (av := [.int a1]) rfl (rc_X3_requireTriple ev1) (M_X3_requireTriple ev1) (Nat.le_of_ble_eq_true rfl) (Nat.zero_le _) (Nat.zero_le _) (Nat.le_of_ble_eq_true rfl) rfl ?_
  refine U_iload_n (n := 6) 2 C dX3_triple_5 rfl rfl ?_
  by_cases c2 : a2 = 0
  · replace hf := (if_pos c2).symm.trans hf
    refine U_tblIn (tgt := 48) C dX3_triple_6 (by rw [c2]; decide) (by rw [c2]; decide) (by rw [c2]; rfl) (by decide) ?_
    refine U_aload_n (n := 49) 0 C dX3_triple_48 rfl rfl rfl ?_
    refine gf_RX3_10 (n := 52) C dX3_triple_49 hf rfl (fun v3 hf => ?_)
    refine U_iload_n (n := 53) 1 C dX3_triple_52 rfl rfl ?_
    refine U_iload_n (n := 54) 2 C dX3_triple_53 rfl rfl ?_
    obtain ⟨v4, ev4, hf⟩ := bsome hf
    refine cv_RX3_148 (n := 57) C dX3_triple_54 (av := [.int a1, .int a2]) rfl (rc_X0_corner ev4) (M_X0_corner ev4) (Nat.le_of_ble_eq_true rfl) (Nat.zero_le _) (Nat.zero_le _) (Nat.le_of_ble_eq_true rfl) rfl ?_
    have hr := (Option.some.inj hf)
    subst hr
    subst hQ
    exact U_iret C dX3_triple_57 (Nat.le_refl 0) (Nat.le_refl 0)
  replace hf := (if_neg c2).symm.trans hf
  by_cases c5 : a2 = 1
  · replace hf := (if_pos c5).symm.trans hf
    refine U_tblIn (tgt := 48) C dX3_triple_6 (by rw [c5]; decide) (by rw [c5]; decide) (by rw [c5]; rfl) (by decide) ?_
    refine U_aload_n (n := 49) 0 C dX3_triple_48 rfl rfl rfl ?_
    refine gf_RX3_10 (n := 52) C dX3_triple_49 hf rfl (fun v6 hf => ?_)
    refine U_iload_n (n := 53) 1 C dX3_triple_52 rfl rfl ?_
    refine U_iload_n (n := 54) 2 C dX3_triple_53 rfl rfl ?_
    obtain ⟨v7, ev7, hf⟩ := bsome hf
    refine cv_RX3_148 (n := 57) C dX3_triple_54 (av := [.int a1, .int a2]) rfl (rc_X0_corner ev7) (M_X0_corner ev7) (Nat.le_of_ble_eq_true rfl) (Nat.zero_le _) (Nat.zero_le _) (Nat.le_of_ble_eq_true rfl) rfl ?_
    have hr := (Option.some.inj hf)
    subst hr
    subst hQ
    exact U_iret C dX3_triple_57 (Nat.le_refl 0) (Nat.le_refl 0)
  replace hf := (if_neg c5).symm.trans hf
  by_cases c8 : a2 = 2
  · replace hf := (if_pos c8).symm.trans hf
    refine U_tblIn (tgt := 48) C dX3_triple_6 (by rw [c8]; decide) (by rw [c8]; decide) (by rw [c8]; rfl) (by decide) ?_
    refine U_aload_n (n := 49) 0 C dX3_triple_48 rfl rfl rfl ?_
    refine gf_RX3_10 (n := 52) C dX3_triple_49 hf rfl (fun v9 hf => ?_)
    refine U_iload_n (n := 53) 1 C dX3_triple_52 rfl rfl ?_
    refine U_iload_n (n := 54) 2 C dX3_triple_53 rfl rfl ?_
    obtain ⟨v10, ev10, hf⟩ := bsome hf
    refine cv_RX3_148 (n := 57) C dX3_triple_54 (av := [.int a1, .int a2]) rfl (rc_X0_corner ev10) (M_X0_corner ev10) (Nat.le_of_ble_eq_true rfl) (Nat.zero_le _) (Nat.zero_le _) (Nat.le_of_ble_eq_true rfl) rfl ?_
    have hr := (Option.some.inj hf)
    subst hr
    subst hQ
    exact U_iret C dX3_triple_57 (Nat.le_refl 0) (Nat.le_refl 0)
  replace hf := (if_neg c8).symm.trans hf
  by_cases c11 : a2 = 3
  · replace hf := (if_pos c11).symm.trans hf
    refine U_tblIn (tgt := 58) C dX3_triple_6 (by rw [c11]; decide) (by rw [c11]; decide) (by rw [c11]; rfl) (by decide) ?_
    refine U_aload_n (n := 59) 0 C dX3_triple_58 rfl rfl rfl ?_
    refine gf_RX3_19 (n := 62) C dX3_triple_59 hf rfl (fun v12 hf => ?_)
    refine gf_RX3_129 (n := 65) C dX3_triple_62 hf rfl (fun v13 hf => ?_)
    refine U_iload_n (n := 66) 1 C dX3_triple_65 rfl rfl ?_
    refine U_iald (n := 67) C dX3_triple_66 hf rfl (fun v14 hf => ?_)
    have hr := (Option.some.inj hf)
    subst hr
    subst hQ
    exact U_iret C dX3_triple_67 (Nat.le_refl 0) (Nat.le_refl 0)
  replace hf := (if_neg c11).symm.trans hf
  by_cases c15 : a2 = 4
  · replace hf := (if_pos c15).symm.trans hf
    refine U_tblIn (tgt := 68) C dX3_triple_6 (by rw [c15]; decide) (by rw [c15]; decide) (by rw [c15]; rfl) (by decide) ?_
    refine U_aload_n (n := 69) 0 C dX3_triple_68 rfl rfl rfl ?_
    refine gf_RX3_19 (n := 72) C dX3_triple_69 hf rfl (fun v16 hf => ?_)
    refine gf_RX3_100 (n := 75) C dX3_triple_72 hf rfl (fun v17 hf => ?_)
    refine U_iload_n (n := 76) 1 C dX3_triple_75 rfl rfl ?_
    refine U_iald (n := 77) C dX3_triple_76 hf rfl (fun v18 hf => ?_)
    have hr := (Option.some.inj hf)
    subst hr
    subst hQ
    exact U_iret C dX3_triple_77 (Nat.le_refl 0) (Nat.le_refl 0)
  replace hf := (if_neg c15).symm.trans hf
  by_cases c19 : a2 = 5
  · replace hf := (if_pos c19).symm.trans hf
    refine U_tblIn (tgt := 78) C dX3_triple_6 (by rw [c19]; decide) (by rw [c19]; decide) (by rw [c19]; rfl) (by decide) ?_
    refine U_aload_n (n := 79) 0 C dX3_triple_78 rfl rfl rfl ?_
    refine gf_RX3_19 (n := 82) C dX3_triple_79 hf rfl (fun v20 hf => ?_)
    refine gf_RX3_151 (n := 85) C dX3_triple_82 hf rfl (fun v21 hf => ?_)
    refine U_iload_n (n := 86) 1 C dX3_triple_85 rfl rfl ?_
    refine U_iald (n := 87) C dX3_triple_86 hf rfl (fun v22 hf => ?_)
    have hr := (Option.some.inj hf)
    subst hr
    subst hQ
    exact U_iret C dX3_triple_87 (Nat.le_refl 0) (Nat.le_refl 0)
  replace hf := (if_neg c19).symm.trans hf
  by_cases c23 : a2 = 6
  · replace hf := (if_pos c23).symm.trans hf
    refine U_tblIn (tgt := 88) C dX3_triple_6 (by rw [c23]; decide) (by rw [c23]; decide) (by rw [c23]; rfl) (by decide) ?_
    refine U_aload_n (n := 89) 0 C dX3_triple_88 rfl rfl rfl ?_
    refine gf_RX3_19 (n := 92) C dX3_triple_89 hf rfl (fun v24 hf => ?_)
    refine gf_RX3_154 (n := 95) C dX3_triple_92 hf rfl (fun v25 hf => ?_)
    refine U_iload_n (n := 96) 1 C dX3_triple_95 rfl rfl ?_
    refine U_iald (n := 97) C dX3_triple_96 hf rfl (fun v26 hf => ?_)
    have hr := (Option.some.inj hf)
    subst hr
    subst hQ
    exact U_iret C dX3_triple_97 (Nat.le_refl 0) (Nat.le_refl 0)
  replace hf := (if_neg c23).symm.trans hf
  have hn27 : (a2).toInt < 0 ∨ 6 < (a2).toInt := by
    have := i32_ne c2
    have := i32_ne c5
    have := i32_ne c8
    have := i32_ne c11
    have := i32_ne c15
    have := i32_ne c19
    have := i32_ne c23
    simp only [Int32.reduceToInt] at *
    omega
  refine U_tblOut (tgt := 98) C dX3_triple_6 hn27 (by decide) ?_
  have hr := (Option.some.inj hf)
  subst hr
  subst hQ
  exact U_throw 0 C xown_RX3 rfl xfit_0 xcl_0 xin_0 xsr_157 xat_0 xgood_0 dX3_triple_98 dX3_triple_101 dX3_triple_102 dX3_triple_104 dX3_triple_107 (Nat.le_of_ble_eq_true rfl) (Nat.le_refl _) (Nat.le_refl _) rfl rfl
def f_X3_reasons (o : Nat) (a1 : Int32) (h : Hp) : Option (Nat ⊕ Int64) :=
  (rc 3 h o).bind fun _ =>
  bindT (f_X3_requireTriple o a1 h) (fun kv1 => some (.inl kv1)) fun v1 =>
  (fR 3 1 h o).bind fun v2 =>
  (fR 2 7 h v2).bind fun v3 =>
  (aJ h v3 a1).bind fun v4 =>
  some (.inr v4)
theorem rc_X3_reasons {o : Nat} {a1 : Int32} {h : Hp} {z} (hf : f_X3_reasons o a1 h = some z) : rc 3 h o = some () := by
  unfold f_X3_reasons at hf
  exact (bsome hf).choose_spec.1
set_option maxHeartbeats 2000000 in
set_option maxRecDepth 20000 in
theorem M_X3_reasons {g : GT} {o : Nat} {a1 : Int32} {h : Hp} {r : (Nat ⊕ Int64)} (hf : f_X3_reasons o a1 h = some r) : CM g yX3_reasons cX3_reasons 2 (some .long) 7 0 0 [.ref o, .int a1] h (rJ r) h := by
  refine CM_of rfl (fun _ => Nat.le_of_ble_eq_true rfl) (fun Γ C hn0 => ?_)
  have C : Cx g Γ cX3_reasons RX3 "reasons" 2 (some .long) 7 (0 + er (rJ r)) (0 + 6 * er (rJ r)) := C
  generalize hQ : Qe g Γ (rJ r) h 0 0 = Q
  show U g Γ 2 Q 0 0 0 [(0, .ref o), (1, .int a1)] [] h
  unfold f_X3_reasons at hf
  replace hf := (bsome hf).choose_spec.2
  refine U_aload_n (n := 1) 0 C dX3_reasons_0 rfl rfl rfl ?_
  refine U_iload_n (n := 2) 1 C dX3_reasons_1 rfl rfl ?_
  rcases bsomeT hf with ⟨kv1, ev1, hf⟩ | ⟨v1, ev1, hf⟩
  · skip
    have hr := (Option.some.inj hf)
    subst hr
    subst hQ
    exact xv_RX3_145 kv1 C dX3_reasons_2 (av := [.int a1]) rfl (rc_X3_requireTriple ev1) (M_X3_requireTriple ev1) (Nat.le_of_ble_eq_true rfl) (Nat.le_of_ble_eq_true rfl)
  refine cv_RX3_145 (n := 5) C dX3_reasons_2 (av := [.int a1]) rfl (rc_X3_requireTriple ev1) (M_X3_requireTriple ev1) (Nat.le_of_ble_eq_true rfl) (Nat.zero_le _) (Nat.zero_le _) (Nat.le_of_ble_eq_true rfl) rfl ?_
  refine U_aload_n (n := 6) 0 C dX3_reasons_5 rfl rfl rfl ?_
  refine gf_RX3_19 (n := 9) C dX3_reasons_6 hf rfl (fun v2 hf => ?_)
  refine gf_RX3_159 (n := 12) C dX3_reasons_9 hf rfl (fun v3 hf => ?_)
  refine U_iload_n (n := 13) 1 C dX3_reasons_12 rfl rfl ?_
  refine U_lald (n := 14) C dX3_reasons_13 hf rfl (fun v4 hf => ?_)
  have hr := (Option.some.inj hf)
  subst hr
  subst hQ
  exact U_lret C dX3_reasons_14 (Nat.le_refl 0) (Nat.le_refl 0)
def l_X3_countComplete_4 (p0 : Nat) (h : Hp) : Nat → Int32 → Int32 → Option Int32
  | 0, _, _ => none
  | fuel + 1, x1, x2 =>
    (fR 3 0 h p0).bind fun v1 =>
    (fI 0 2 h v1).bind fun v2 =>
    if v2 ≤ x2 then (
      some x1
    ) else (
      (fR 3 0 h p0).bind fun v4 =>
      (fR 3 1 h p0).bind fun v5 =>
      (fR 2 3 h v5).bind fun v6 =>
      (f_X0_unknownIn v4 x2 v6 h).bind fun v7 =>
      (
        if v7 = 0 then (
          some ((x1 + 1))
        ) else (
          some x1
        )
      ).bind fun v9 =>
      l_X3_countComplete_4 p0 h fuel v9 (x2 + 1)
    )
def f_X3_countComplete (o : Nat) (h : Hp) : Option Int32 :=
  (rc 3 h o).bind fun _ =>
  (l_X3_countComplete_4 o h FU (0 : Int32) (0 : Int32)).bind fun v13 =>
  some (v13)
set_option maxHeartbeats 2000000 in
set_option maxRecDepth 20000 in
theorem L_X3_countComplete_4 {g : GT} {Γ : CT} {Q : State → Prop} {mc ms : Nat} (C : Cx g Γ cX3_countComplete RX3 "countComplete" 3 (some .int) 7 mc ms) {p0 : Nat} {h : Hp} : ∀ {fuel : Nat} {x1 : Int32} {x2 : Int32} {y1 : Int32}, l_X3_countComplete_4 p0 h fuel x1 x2 = some y1 → U g Γ 3 Q 0 0 42 [(1, .int y1)] [] h → U g Γ 3 Q 0 0 4 [(0, .ref p0), (1, .int x1), (2, .int x2)] [] h := by
  intro fuel
  induction fuel with
  | zero =>
    intro x1 x2 y1 hf J0
    simp only [l_X3_countComplete_4, reduceCtorEq] at hf
  | succ fuel ih =>
    intro x1 x2 y1 hf J0
    rw [l_X3_countComplete_4] at hf
    refine U_iload_n (n := 5) 2 C dX3_countComplete_4 rfl rfl ?_
    refine U_aload_n (n := 6) 0 C dX3_countComplete_5 rfl rfl rfl ?_
    refine gf_RX3_10 (n := 9) C dX3_countComplete_6 hf rfl (fun v1 hf => ?_)
    refine gf_RX3_166 (n := 12) C dX3_countComplete_9 hf rfl (fun v2 hf => ?_)
    refine U_icge (tgt := 42) (n := 15) C dX3_countComplete_12 (by decide) rfl (fun c3 => ?_) (fun c3 => ?_)
    · replace hf := (if_pos c3).symm.trans hf
      have hr := Option.some.inj hf
      subst hr
      exact U_lv [1] rfl J0
    · replace hf := (if_neg c3).symm.trans hf
      refine U_aload_n (n := 16) 0 C dX3_countComplete_15 rfl rfl rfl ?_
      refine gf_RX3_10 (n := 19) C dX3_countComplete_16 hf rfl (fun v4 hf => ?_)
      refine U_iload_n (n := 20) 2 C dX3_countComplete_19 rfl rfl ?_
      refine U_aload_n (n := 21) 0 C dX3_countComplete_20 rfl rfl rfl ?_
      refine gf_RX3_19 (n := 24) C dX3_countComplete_21 hf rfl (fun v5 hf => ?_)
      refine gf_RX3_129 (n := 27) C dX3_countComplete_24 hf rfl (fun v6 hf => ?_)
      obtain ⟨v7, ev7, hf⟩ := bsome hf
      refine cv_RX3_184 (n := 30) C dX3_countComplete_27 (av := [.int x2, .ref v6]) rfl (rc_X0_unknownIn ev7) (M_X0_unknownIn ev7) (Nat.le_of_ble_eq_true rfl) (Nat.zero_le _) (Nat.zero_le _) (Nat.le_of_ble_eq_true rfl) rfl ?_
      refine U_join1 (fun v9 => U g Γ 3 Q 0 0 36 [(0, .ref p0), (1, .int v9), (2, .int x2)] [] h) hf (fun v9 hf => ?_) (fun v9 hf J11 => ?_)
      · skip
        refine U_iinc (n := 39) (v := (x2 + 1)) (lv2 := [(2, .int (x2 + 1)), (0, .ref p0), (1, .int v9)]) 2 C dX3_countComplete_36 rfl rfl (by decide) rfl rfl ?_
        refine U_goto (n := 0) (tgt := 4) C dX3_countComplete_39 (by decide) ?_
        exact U_lv [1, 2, 0] rfl (ih hf J0)
      · skip
        refine U_ifne (tgt := 36) (n := 33) C dX3_countComplete_30 (by decide) rfl (fun c8 => ?_) (fun c8 => ?_)
        · replace hf := (if_pos c8).symm.trans hf
          refine U_iinc (n := 36) (v := (x1 + 1)) (lv2 := [(1, .int (x1 + 1)), (0, .ref p0), (2, .int x2)]) 1 C dX3_countComplete_33 rfl rfl (by decide) rfl rfl ?_
          have hr := Option.some.inj hf
          subst hr
          exact U_lv [1, 0, 2] rfl J11
        · replace hf := (if_neg c8).symm.trans hf
          have hr := Option.some.inj hf
          subst hr
          exact U_lv [0, 1, 2] rfl J11
theorem rc_X3_countComplete {o : Nat} {h : Hp} {z} (hf : f_X3_countComplete o h = some z) : rc 3 h o = some () := by
  unfold f_X3_countComplete at hf
  exact (bsome hf).choose_spec.1
set_option maxHeartbeats 2000000 in
set_option maxRecDepth 20000 in
theorem M_X3_countComplete {g : GT} {o : Nat} {h : Hp} {r : Int32} (hf : f_X3_countComplete o h = some r) : CM g yX3_countComplete cX3_countComplete 3 (some .int) 7 0 0 [.ref o] h (.inr (some (.int r))) h := by
  refine CM_of rfl (fun _ => Nat.le_of_ble_eq_true rfl) (fun Γ C hn0 => ?_)
  have C : Cx g Γ cX3_countComplete RX3 "countComplete" 3 (some .int) 7 0 0 := C
  generalize hQ : Qe g Γ (.inr (some (.int r))) h 0 0 = Q
  show U g Γ 3 Q 0 0 0 [(0, .ref o)] [] h
  unfold f_X3_countComplete at hf
  replace hf := (bsome hf).choose_spec.2
  refine U_iconst (n := 1) (0 : Int32) C dX3_countComplete_0 kiconst_0 rfl ?_
  refine U_istore_n (n := 2) (lv2 := [(1, .int (0 : Int32)), (0, .ref o)]) C dX3_countComplete_1 (by decide) rfl rfl ?_
  refine U_iconst (n := 3) (0 : Int32) C dX3_countComplete_2 kiconst_0 rfl ?_
  refine U_istore_n (n := 4) (lv2 := [(2, .int (0 : Int32)), (1, .int (0 : Int32)), (0, .ref o)]) C dX3_countComplete_3 (by decide) rfl rfl ?_
  refine U_join1 (fun v13 => U g Γ 3 Q 0 0 42 [(1, .int v13)] [] h) hf (fun v13 hf => ?_) (fun v13 hf J => U_lv [2, 1, 0] rfl (L_X3_countComplete_4 C hf J))
  refine U_iload_n (n := 43) 0 C dX3_countComplete_42 rfl rfl ?_
  have hr := (Option.some.inj hf)
  subst hr
  subst hQ
  exact U_iret C dX3_countComplete_43 (Nat.le_refl 0) (Nat.le_refl 0)
def l_X3_countViolated_4 (p0 : Nat) (h : Hp) : Nat → Int32 → Int32 → Option Int32
  | 0, _, _ => none
  | fuel + 1, x1, x2 =>
    (fR 3 0 h p0).bind fun v1 =>
    (fI 0 2 h v1).bind fun v2 =>
    if v2 ≤ x2 then (
      some x1
    ) else (
      (fR 3 0 h p0).bind fun v4 =>
      (fR 3 1 h p0).bind fun v5 =>
      (fR 2 3 h v5).bind fun v6 =>
      (f_X0_verdict v4 x2 v6 h).bind fun v7 =>
      (
        if 0 ≤ v7 then (
          some x1
        ) else (
          some ((x1 + 1))
        )
      ).bind fun v9 =>
      l_X3_countViolated_4 p0 h fuel v9 (x2 + 1)
    )
def f_X3_countViolated (o : Nat) (h : Hp) : Option Int32 :=
  (rc 3 h o).bind fun _ =>
  (l_X3_countViolated_4 o h FU (0 : Int32) (0 : Int32)).bind fun v13 =>
  some (v13)
set_option maxHeartbeats 2000000 in
set_option maxRecDepth 20000 in
theorem L_X3_countViolated_4 {g : GT} {Γ : CT} {Q : State → Prop} {mc ms : Nat} (C : Cx g Γ cX3_countViolated RX3 "countViolated" 3 (some .int) 8 mc ms) {p0 : Nat} {h : Hp} : ∀ {fuel : Nat} {x1 : Int32} {x2 : Int32} {y1 : Int32}, l_X3_countViolated_4 p0 h fuel x1 x2 = some y1 → U g Γ 3 Q 0 0 42 [(1, .int y1)] [] h → U g Γ 3 Q 0 0 4 [(0, .ref p0), (1, .int x1), (2, .int x2)] [] h := by
  intro fuel
  induction fuel with
  | zero =>
    intro x1 x2 y1 hf J0
    simp only [l_X3_countViolated_4, reduceCtorEq] at hf
  | succ fuel ih =>
    intro x1 x2 y1 hf J0
    rw [l_X3_countViolated_4] at hf
    refine U_iload_n (n := 5) 2 C dX3_countViolated_4 rfl rfl ?_
    refine U_aload_n (n := 6) 0 C dX3_countViolated_5 rfl rfl rfl ?_
    refine gf_RX3_10 (n := 9) C dX3_countViolated_6 hf rfl (fun v1 hf => ?_)
    refine gf_RX3_166 (n := 12) C dX3_countViolated_9 hf rfl (fun v2 hf => ?_)
    refine U_icge (tgt := 42) (n := 15) C dX3_countViolated_12 (by decide) rfl (fun c3 => ?_) (fun c3 => ?_)
    · replace hf := (if_pos c3).symm.trans hf
      have hr := Option.some.inj hf
      subst hr
      exact U_lv [1] rfl J0
    · replace hf := (if_neg c3).symm.trans hf
      refine U_aload_n (n := 16) 0 C dX3_countViolated_15 rfl rfl rfl ?_
      refine gf_RX3_10 (n := 19) C dX3_countViolated_16 hf rfl (fun v4 hf => ?_)
      refine U_iload_n (n := 20) 2 C dX3_countViolated_19 rfl rfl ?_
      refine U_aload_n (n := 21) 0 C dX3_countViolated_20 rfl rfl rfl ?_
      refine gf_RX3_19 (n := 24) C dX3_countViolated_21 hf rfl (fun v5 hf => ?_)
      refine gf_RX3_129 (n := 27) C dX3_countViolated_24 hf rfl (fun v6 hf => ?_)
      obtain ⟨v7, ev7, hf⟩ := bsome hf
      refine cv_RX3_188 (n := 30) C dX3_countViolated_27 (av := [.int x2, .ref v6]) rfl (rc_X0_verdict ev7) (M_X0_verdict ev7) (Nat.le_of_ble_eq_true rfl) (Nat.zero_le _) (Nat.zero_le _) (Nat.le_of_ble_eq_true rfl) rfl ?_
      refine U_join1 (fun v9 => U g Γ 3 Q 0 0 36 [(0, .ref p0), (1, .int v9), (2, .int x2)] [] h) hf (fun v9 hf => ?_) (fun v9 hf J11 => ?_)
      · skip
        refine U_iinc (n := 39) (v := (x2 + 1)) (lv2 := [(2, .int (x2 + 1)), (0, .ref p0), (1, .int v9)]) 2 C dX3_countViolated_36 rfl rfl (by decide) rfl rfl ?_
        refine U_goto (n := 0) (tgt := 4) C dX3_countViolated_39 (by decide) ?_
        exact U_lv [1, 2, 0] rfl (ih hf J0)
      · skip
        refine U_ifge (tgt := 36) (n := 33) C dX3_countViolated_30 (by decide) rfl (fun c8 => ?_) (fun c8 => ?_)
        · replace hf := (if_pos c8).symm.trans hf
          have hr := Option.some.inj hf
          subst hr
          exact U_lv [0, 1, 2] rfl J11
        · replace hf := (if_neg c8).symm.trans hf
          refine U_iinc (n := 36) (v := (x1 + 1)) (lv2 := [(1, .int (x1 + 1)), (0, .ref p0), (2, .int x2)]) 1 C dX3_countViolated_33 rfl rfl (by decide) rfl rfl ?_
          have hr := Option.some.inj hf
          subst hr
          exact U_lv [1, 0, 2] rfl J11
theorem rc_X3_countViolated {o : Nat} {h : Hp} {z} (hf : f_X3_countViolated o h = some z) : rc 3 h o = some () := by
  unfold f_X3_countViolated at hf
  exact (bsome hf).choose_spec.1
set_option maxHeartbeats 2000000 in
set_option maxRecDepth 20000 in
theorem M_X3_countViolated {g : GT} {o : Nat} {h : Hp} {r : Int32} (hf : f_X3_countViolated o h = some r) : CM g yX3_countViolated cX3_countViolated 3 (some .int) 8 0 0 [.ref o] h (.inr (some (.int r))) h := by
  refine CM_of rfl (fun _ => Nat.le_of_ble_eq_true rfl) (fun Γ C hn0 => ?_)
  have C : Cx g Γ cX3_countViolated RX3 "countViolated" 3 (some .int) 8 0 0 := C
  generalize hQ : Qe g Γ (.inr (some (.int r))) h 0 0 = Q
  show U g Γ 3 Q 0 0 0 [(0, .ref o)] [] h
  unfold f_X3_countViolated at hf
  replace hf := (bsome hf).choose_spec.2
  refine U_iconst (n := 1) (0 : Int32) C dX3_countViolated_0 kiconst_0 rfl ?_
  refine U_istore_n (n := 2) (lv2 := [(1, .int (0 : Int32)), (0, .ref o)]) C dX3_countViolated_1 (by decide) rfl rfl ?_
  refine U_iconst (n := 3) (0 : Int32) C dX3_countViolated_2 kiconst_0 rfl ?_
  refine U_istore_n (n := 4) (lv2 := [(2, .int (0 : Int32)), (1, .int (0 : Int32)), (0, .ref o)]) C dX3_countViolated_3 (by decide) rfl rfl ?_
  refine U_join1 (fun v13 => U g Γ 3 Q 0 0 42 [(1, .int v13)] [] h) hf (fun v13 hf => ?_) (fun v13 hf J => U_lv [2, 1, 0] rfl (L_X3_countViolated_4 C hf J))
  refine U_iload_n (n := 43) 0 C dX3_countViolated_42 rfl rfl ?_
  have hr := (Option.some.inj hf)
  subst hr
  subst hQ
  exact U_iret C dX3_countViolated_43 (Nat.le_refl 0) (Nat.le_refl 0)
def f_X3_count (o : Nat) (a1 : Int32) (h : Hp) : Option (Nat ⊕ Int32) :=
  (rc 3 h o).bind fun _ =>
  if a1 = 0 then (
    (fR 3 0 h o).bind fun v2 =>
    (fI 0 0 h v2).bind fun v3 =>
    some (.inr v3)
  ) else (
  if a1 = 1 then (
    (fR 3 0 h o).bind fun v5 =>
    (fI 0 1 h v5).bind fun v6 =>
    some (.inr v6)
  ) else (
  if a1 = 2 then (
    (fR 3 1 h o).bind fun v8 =>
    (fR 3 0 h o).bind fun v9 =>
    (fI 0 1 h v9).bind fun v10 =>
    (f_X2_countKind v8 (1 : Int32) v10 h).bind fun v11 =>
    some (.inr v11)
  ) else (
  if a1 = 3 then (
    (fR 3 1 h o).bind fun v13 =>
    (fR 3 0 h o).bind fun v14 =>
    (fI 0 1 h v14).bind fun v15 =>
    (f_X2_countKind v13 (2 : Int32) v15 h).bind fun v16 =>
    some (.inr v16)
  ) else (
  if a1 = 4 then (
    (fR 3 1 h o).bind fun v18 =>
    (fR 3 0 h o).bind fun v19 =>
    (fI 0 1 h v19).bind fun v20 =>
    (f_X2_countKind v18 (0 : Int32) v20 h).bind fun v21 =>
    some (.inr v21)
  ) else (
  if a1 = 5 then (
    (fR 3 0 h o).bind fun v23 =>
    (fI 0 2 h v23).bind fun v24 =>
    some (.inr v24)
  ) else (
  if a1 = 6 then (
    (f_X3_countComplete o h).bind fun v26 =>
    some (.inr v26)
  ) else (
  if a1 = 7 then (
    (f_X3_countViolated o h).bind fun v28 =>
    some (.inr v28)
  ) else (
  if a1 = 8 then (
    (fR 3 1 h o).bind fun v30 =>
    (fI 2 2 h v30).bind fun v31 =>
    some (.inr v31)
  ) else (
  if a1 = 9 then (
    (fR 3 1 h o).bind fun v33 =>
    (fI 2 1 h v33).bind fun v34 =>
    if v34 = 0 then (
      some (.inr (0 : Int32))
    ) else (
      some (.inr (1 : Int32))
    )
  ) else (
    some (.inl 0)
  ))))))))))
theorem rc_X3_count {o : Nat} {a1 : Int32} {h : Hp} {z} (hf : f_X3_count o a1 h = some z) : rc 3 h o = some () := by
  unfold f_X3_count at hf
  exact (bsome hf).choose_spec.1
set_option maxHeartbeats 2000000 in
set_option maxRecDepth 20000 in
theorem M_X3_count {g : GT} {o : Nat} {a1 : Int32} {h : Hp} {r : (Nat ⊕ Int32)} (hf : f_X3_count o a1 h = some r) : CM g yX3_count cX3_count 2 (some .int) 9 0 0 [.ref o, .int a1] h (rI r) h := by
  refine CM_of rfl (fun _ => Nat.le_of_ble_eq_true rfl) (fun Γ C hn0 => ?_)
  have C : Cx g Γ cX3_count RX3 "count" 2 (some .int) 9 (0 + er (rI r)) (0 + 6 * er (rI r)) := C
  generalize hQ : Qe g Γ (rI r) h 0 0 = Q
  show U g Γ 2 Q 0 0 0 [(0, .ref o), (1, .int a1)] [] h
  unfold f_X3_count at hf
  replace hf := (bsome hf).choose_spec.2
  refine U_iload_n (n := 1) 1 C dX3_count_0 rfl rfl ?_
  by_cases c1 : a1 = 0
  · replace hf := (if_pos c1).symm.trans hf
    refine U_tblIn (tgt := 56) C dX3_count_1 (by rw [c1]; decide) (by rw [c1]; decide) (by rw [c1]; rfl) (by decide) ?_
    refine U_aload_n (n := 57) 0 C dX3_count_56 rfl rfl rfl ?_
    refine gf_RX3_10 (n := 60) C dX3_count_57 hf rfl (fun v2 hf => ?_)
    refine gf_RX3_163 (n := 63) C dX3_count_60 hf rfl (fun v3 hf => ?_)
    have hr := (Option.some.inj hf)
    subst hr
    subst hQ
    exact U_iret C dX3_count_63 (Nat.le_refl 0) (Nat.le_refl 0)
  replace hf := (if_neg c1).symm.trans hf
  by_cases c4 : a1 = 1
  · replace hf := (if_pos c4).symm.trans hf
    refine U_tblIn (tgt := 64) C dX3_count_1 (by rw [c4]; decide) (by rw [c4]; decide) (by rw [c4]; rfl) (by decide) ?_
    refine U_aload_n (n := 65) 0 C dX3_count_64 rfl rfl rfl ?_
    refine gf_RX3_10 (n := 68) C dX3_count_65 hf rfl (fun v5 hf => ?_)
    refine gf_RX3_77 (n := 71) C dX3_count_68 hf rfl (fun v6 hf => ?_)
    have hr := (Option.some.inj hf)
    subst hr
    subst hQ
    exact U_iret C dX3_count_71 (Nat.le_refl 0) (Nat.le_refl 0)
  replace hf := (if_neg c4).symm.trans hf
  by_cases c7 : a1 = 2
  · replace hf := (if_pos c7).symm.trans hf
    refine U_tblIn (tgt := 72) C dX3_count_1 (by rw [c7]; decide) (by rw [c7]; decide) (by rw [c7]; rfl) (by decide) ?_
    refine U_aload_n (n := 73) 0 C dX3_count_72 rfl rfl rfl ?_
    refine gf_RX3_19 (n := 76) C dX3_count_73 hf rfl (fun v8 hf => ?_)
    refine U_iconst (n := 77) (1 : Int32) C dX3_count_76 kiconst_1 rfl ?_
    refine U_aload_n (n := 78) 0 C dX3_count_77 rfl rfl rfl ?_
    refine gf_RX3_10 (n := 81) C dX3_count_78 hf rfl (fun v9 hf => ?_)
    refine gf_RX3_77 (n := 84) C dX3_count_81 hf rfl (fun v10 hf => ?_)
    obtain ⟨v11, ev11, hf⟩ := bsome hf
    refine cv_RX3_141 (n := 87) C dX3_count_84 (av := [.int (1 : Int32), .int v10]) rfl (rc_X2_countKind ev11) (M_X2_countKind ev11) (Nat.le_of_ble_eq_true rfl) (Nat.zero_le _) (Nat.zero_le _) (Nat.le_of_ble_eq_true rfl) rfl ?_
    have hr := (Option.some.inj hf)
    subst hr
    subst hQ
    exact U_iret C dX3_count_87 (Nat.le_refl 0) (Nat.le_refl 0)
  replace hf := (if_neg c7).symm.trans hf
  by_cases c12 : a1 = 3
  · replace hf := (if_pos c12).symm.trans hf
    refine U_tblIn (tgt := 88) C dX3_count_1 (by rw [c12]; decide) (by rw [c12]; decide) (by rw [c12]; rfl) (by decide) ?_
    refine U_aload_n (n := 89) 0 C dX3_count_88 rfl rfl rfl ?_
    refine gf_RX3_19 (n := 92) C dX3_count_89 hf rfl (fun v13 hf => ?_)
    refine U_iconst (n := 93) (2 : Int32) C dX3_count_92 kiconst_2 rfl ?_
    refine U_aload_n (n := 94) 0 C dX3_count_93 rfl rfl rfl ?_
    refine gf_RX3_10 (n := 97) C dX3_count_94 hf rfl (fun v14 hf => ?_)
    refine gf_RX3_77 (n := 100) C dX3_count_97 hf rfl (fun v15 hf => ?_)
    obtain ⟨v16, ev16, hf⟩ := bsome hf
    refine cv_RX3_141 (n := 103) C dX3_count_100 (av := [.int (2 : Int32), .int v15]) rfl (rc_X2_countKind ev16) (M_X2_countKind ev16) (Nat.le_of_ble_eq_true rfl) (Nat.zero_le _) (Nat.zero_le _) (Nat.le_of_ble_eq_true rfl) rfl ?_
    have hr := (Option.some.inj hf)
    subst hr
    subst hQ
    exact U_iret C dX3_count_103 (Nat.le_refl 0) (Nat.le_refl 0)
  replace hf := (if_neg c12).symm.trans hf
  by_cases c17 : a1 = 4
  · replace hf := (if_pos c17).symm.trans hf
    refine U_tblIn (tgt := 104) C dX3_count_1 (by rw [c17]; decide) (by rw [c17]; decide) (by rw [c17]; rfl) (by decide) ?_
    refine U_aload_n (n := 105) 0 C dX3_count_104 rfl rfl rfl ?_
    refine gf_RX3_19 (n := 108) C dX3_count_105 hf rfl (fun v18 hf => ?_)
    refine U_iconst (n := 109) (0 : Int32) C dX3_count_108 kiconst_0 rfl ?_
    refine U_aload_n (n := 110) 0 C dX3_count_109 rfl rfl rfl ?_
    refine gf_RX3_10 (n := 113) C dX3_count_110 hf rfl (fun v19 hf => ?_)
    refine gf_RX3_77 (n := 116) C dX3_count_113 hf rfl (fun v20 hf => ?_)
    obtain ⟨v21, ev21, hf⟩ := bsome hf
    refine cv_RX3_141 (n := 119) C dX3_count_116 (av := [.int (0 : Int32), .int v20]) rfl (rc_X2_countKind ev21) (M_X2_countKind ev21) (Nat.le_of_ble_eq_true rfl) (Nat.zero_le _) (Nat.zero_le _) (Nat.le_of_ble_eq_true rfl) rfl ?_
    have hr := (Option.some.inj hf)
    subst hr
    subst hQ
    exact U_iret C dX3_count_119 (Nat.le_refl 0) (Nat.le_refl 0)
  replace hf := (if_neg c17).symm.trans hf
  by_cases c22 : a1 = 5
  · replace hf := (if_pos c22).symm.trans hf
    refine U_tblIn (tgt := 120) C dX3_count_1 (by rw [c22]; decide) (by rw [c22]; decide) (by rw [c22]; rfl) (by decide) ?_
    refine U_aload_n (n := 121) 0 C dX3_count_120 rfl rfl rfl ?_
    refine gf_RX3_10 (n := 124) C dX3_count_121 hf rfl (fun v23 hf => ?_)
    refine gf_RX3_166 (n := 127) C dX3_count_124 hf rfl (fun v24 hf => ?_)
    have hr := (Option.some.inj hf)
    subst hr
    subst hQ
    exact U_iret C dX3_count_127 (Nat.le_refl 0) (Nat.le_refl 0)
  replace hf := (if_neg c22).symm.trans hf
  by_cases c25 : a1 = 6
  · replace hf := (if_pos c25).symm.trans hf
    refine U_tblIn (tgt := 128) C dX3_count_1 (by rw [c25]; decide) (by rw [c25]; decide) (by rw [c25]; rfl) (by decide) ?_
    refine U_aload_n (n := 129) 0 C dX3_count_128 rfl rfl rfl ?_
    obtain ⟨v26, ev26, hf⟩ := bsome hf
    refine cv_RX3_169 (n := 132) C dX3_count_129 (av := []) rfl (rc_X3_countComplete ev26) (M_X3_countComplete ev26) (Nat.le_of_ble_eq_true rfl) (Nat.zero_le _) (Nat.zero_le _) (Nat.le_of_ble_eq_true rfl) rfl ?_
    have hr := (Option.some.inj hf)
    subst hr
    subst hQ
    exact U_iret C dX3_count_132 (Nat.le_refl 0) (Nat.le_refl 0)
  replace hf := (if_neg c25).symm.trans hf
  by_cases c27 : a1 = 7
  · replace hf := (if_pos c27).symm.trans hf
    refine U_tblIn (tgt := 133) C dX3_count_1 (by rw [c27]; decide) (by rw [c27]; decide) (by rw [c27]; rfl) (by decide) ?_
    refine U_aload_n (n := 134) 0 C dX3_count_133 rfl rfl rfl ?_
    obtain ⟨v28, ev28, hf⟩ := bsome hf
    refine cv_RX3_172 (n := 137) C dX3_count_134 (av := []) rfl (rc_X3_countViolated ev28) (M_X3_countViolated ev28) (Nat.le_of_ble_eq_true rfl) (Nat.zero_le _) (Nat.zero_le _) (Nat.le_of_ble_eq_true rfl) rfl ?_
    have hr := (Option.some.inj hf)
    subst hr
    subst hQ
    exact U_iret C dX3_count_137 (Nat.le_refl 0) (Nat.le_refl 0)
  replace hf := (if_neg c27).symm.trans hf
  by_cases c29 : a1 = 8
  · replace hf := (if_pos c29).symm.trans hf
    refine U_tblIn (tgt := 138) C dX3_count_1 (by rw [c29]; decide) (by rw [c29]; decide) (by rw [c29]; rfl) (by decide) ?_
    refine U_aload_n (n := 139) 0 C dX3_count_138 rfl rfl rfl ?_
    refine gf_RX3_19 (n := 142) C dX3_count_139 hf rfl (fun v30 hf => ?_)
    refine gf_RX3_175 (n := 145) C dX3_count_142 hf rfl (fun v31 hf => ?_)
    have hr := (Option.some.inj hf)
    subst hr
    subst hQ
    exact U_iret C dX3_count_145 (Nat.le_refl 0) (Nat.le_refl 0)
  replace hf := (if_neg c29).symm.trans hf
  by_cases c32 : a1 = 9
  · replace hf := (if_pos c32).symm.trans hf
    refine U_tblIn (tgt := 146) C dX3_count_1 (by rw [c32]; decide) (by rw [c32]; decide) (by rw [c32]; rfl) (by decide) ?_
    refine U_aload_n (n := 147) 0 C dX3_count_146 rfl rfl rfl ?_
    refine gf_RX3_19 (n := 150) C dX3_count_147 hf rfl (fun v33 hf => ?_)
    refine gf_RX3_111 (n := 153) C dX3_count_150 hf rfl (fun v34 hf => ?_)
    refine U_ifeq (tgt := 160) (n := 156) C dX3_count_153 (by decide) rfl (fun c35 => ?_) (fun c35 => ?_)
    · replace hf := (if_pos c35).symm.trans hf
      refine U_iconst (n := 161) (0 : Int32) C dX3_count_160 kiconst_0 rfl ?_
      have hr := (Option.some.inj hf)
      subst hr
      subst hQ
      exact U_iret C dX3_count_161 (Nat.le_refl 0) (Nat.le_refl 0)
    · replace hf := (if_neg c35).symm.trans hf
      refine U_iconst (n := 157) (1 : Int32) C dX3_count_156 kiconst_1 rfl ?_
      refine U_goto (n := 0) (tgt := 161) C dX3_count_157 (by decide) ?_
      have hr := (Option.some.inj hf)
      subst hr
      subst hQ
      exact U_iret C dX3_count_161 (Nat.le_refl 0) (Nat.le_refl 0)
  replace hf := (if_neg c32).symm.trans hf
  have hn36 : (a1).toInt < 0 ∨ 9 < (a1).toInt := by
    have := i32_ne c1
    have := i32_ne c4
    have := i32_ne c7
    have := i32_ne c12
    have := i32_ne c17
    have := i32_ne c22
    have := i32_ne c25
    have := i32_ne c27
    have := i32_ne c29
    have := i32_ne c32
    simp only [Int32.reduceToInt] at *
    omega
  refine U_tblOut (tgt := 162) C dX3_count_1 hn36 (by decide) ?_
  have hr := (Option.some.inj hf)
  subst hr
  subst hQ
  exact U_throw 0 C xown_RX3 rfl xfit_0 xcl_0 xin_0 xsr_157 xat_0 xgood_0 dX3_count_162 dX3_count_165 dX3_count_166 dX3_count_168 dX3_count_171 (Nat.le_of_ble_eq_true rfl) (Nat.le_refl _) (Nat.le_refl _) rfl rfl
def f_X3_requireRelation (o : Nat) (a1 : Int32) (h : Hp) : Option (Nat ⊕ Unit) :=
  (rc 3 h o).bind fun _ =>
  if a1 < 0 then (
    some (.inl 1)
  ) else (
    (fR 3 0 h o).bind fun v2 =>
    (fI 0 2 h v2).bind fun v3 =>
    if a1 < v3 then (
      some (.inr ())
    ) else (
      some (.inl 1)
    )
  )
theorem rc_X3_requireRelation {o : Nat} {a1 : Int32} {h : Hp} {z} (hf : f_X3_requireRelation o a1 h = some z) : rc 3 h o = some () := by
  unfold f_X3_requireRelation at hf
  exact (bsome hf).choose_spec.1
set_option maxHeartbeats 2000000 in
set_option maxRecDepth 20000 in
theorem M_X3_requireRelation {g : GT} {o : Nat} {a1 : Int32} {h : Hp} {r : (Nat ⊕ Unit)} (hf : f_X3_requireRelation o a1 h = some r) : CM g yX3_requireRelation cX3_requireRelation 2 none 6 0 0 [.ref o, .int a1] h (rV r) h := by
  refine CM_of rfl (fun _ => Nat.le_of_ble_eq_true rfl) (fun Γ C hn0 => ?_)
  have C : Cx g Γ cX3_requireRelation RX3 "requireRelation" 2 none 6 (0 + er (rV r)) (0 + 6 * er (rV r)) := C
  generalize hQ : Qe g Γ (rV r) h 0 0 = Q
  show U g Γ 2 Q 0 0 0 [(0, .ref o), (1, .int a1)] [] h
  unfold f_X3_requireRelation at hf
  replace hf := (bsome hf).choose_spec.2
  refine U_iload_n (n := 1) 1 C dX3_requireRelation_0 rfl rfl ?_
  refine U_iflt (tgt := 15) (n := 4) C dX3_requireRelation_1 (by decide) rfl (fun c1 => ?_) (fun c1 => ?_)
  · replace hf := (if_pos c1).symm.trans hf
    have hr := (Option.some.inj hf)
    subst hr
    subst hQ
    exact U_throwW 1 C xown_RX3 rfl xfit_1 xcl_1 xin_1 xsr_328 xat_1 xgood_1 dX3_requireRelation_15 dX3_requireRelation_18 dX3_requireRelation_19 dX3_requireRelation_22 dX3_requireRelation_25 (Nat.le_of_ble_eq_true rfl) (Nat.le_refl _) (Nat.le_refl _) rfl rfl
  · replace hf := (if_neg c1).symm.trans hf
    refine U_iload_n (n := 5) 1 C dX3_requireRelation_4 rfl rfl ?_
    refine U_aload_n (n := 6) 0 C dX3_requireRelation_5 rfl rfl rfl ?_
    refine gf_RX3_10 (n := 9) C dX3_requireRelation_6 hf rfl (fun v2 hf => ?_)
    refine gf_RX3_166 (n := 12) C dX3_requireRelation_9 hf rfl (fun v3 hf => ?_)
    refine U_iclt (tgt := 26) (n := 15) C dX3_requireRelation_12 (by decide) rfl (fun c4 => ?_) (fun c4 => ?_)
    · replace hf := (if_pos c4).symm.trans hf
      have hr := (Option.some.inj hf)
      subst hr
      subst hQ
      exact U_vret C dX3_requireRelation_26 (Nat.le_refl 0) (Nat.le_refl 0)
    · replace hf := (if_neg c4).symm.trans hf
      have hr := (Option.some.inj hf)
      subst hr
      subst hQ
      exact U_throwW 1 C xown_RX3 rfl xfit_1 xcl_1 xin_1 xsr_328 xat_1 xgood_1 dX3_requireRelation_15 dX3_requireRelation_18 dX3_requireRelation_19 dX3_requireRelation_22 dX3_requireRelation_25 (Nat.le_of_ble_eq_true rfl) (Nat.le_refl _) (Nat.le_refl _) rfl rfl
def f_X3_relation (o : Nat) (a1 : Int32) (a2 : Int32) (h : Hp) : Option (Nat ⊕ Int32) :=
  (rc 3 h o).bind fun _ =>
  bindT (f_X3_requireRelation o a1 h) (fun kv1 => some (.inl kv1)) fun v1 =>
  if a2 = 0 then (
    (fR 3 0 h o).bind fun v3 =>
    (f_X0_member v3 a1 a2 h).bind fun v4 =>
    some (.inr v4)
  ) else (
  if a2 = 1 then (
    (fR 3 0 h o).bind fun v6 =>
    (f_X0_member v6 a1 a2 h).bind fun v7 =>
    some (.inr v7)
  ) else (
  if a2 = 2 then (
    (fR 3 0 h o).bind fun v9 =>
    (f_X0_member v9 a1 a2 h).bind fun v10 =>
    some (.inr v10)
  ) else (
  if a2 = 3 then (
    (fR 3 0 h o).bind fun v12 =>
    (f_X0_member v12 a1 a2 h).bind fun v13 =>
    some (.inr v13)
  ) else (
  if a2 = 4 then (
    (fR 3 0 h o).bind fun v15 =>
    (f_X0_member v15 a1 a2 h).bind fun v16 =>
    some (.inr v16)
  ) else (
  if a2 = 5 then (
    (fR 3 0 h o).bind fun v18 =>
    (fR 3 1 h o).bind fun v19 =>
    (fR 2 3 h v19).bind fun v20 =>
    (f_X0_unknownIn v18 a1 v20 h).bind fun v21 =>
    some (.inr v21)
  ) else (
  if a2 = 6 then (
    (fR 3 0 h o).bind fun v23 =>
    (fR 3 1 h o).bind fun v24 =>
    (fR 2 3 h v24).bind fun v25 =>
    (f_X0_verdict v23 a1 v25 h).bind fun v26 =>
    some (.inr v26)
  ) else (
    some (.inl 0)
  )))))))
theorem rc_X3_relation {o : Nat} {a1 : Int32} {a2 : Int32} {h : Hp} {z} (hf : f_X3_relation o a1 a2 h = some z) : rc 3 h o = some () := by
  unfold f_X3_relation at hf
  exact (bsome hf).choose_spec.1
set_option maxHeartbeats 2000000 in
set_option maxRecDepth 20000 in
theorem M_X3_relation {g : GT} {o : Nat} {a1 : Int32} {a2 : Int32} {h : Hp} {r : (Nat ⊕ Int32)} (hf : f_X3_relation o a1 a2 h = some r) : CM g yX3_relation cX3_relation 3 (some .int) 8 0 0 [.ref o, .int a1, .int a2] h (rI r) h := by
  refine CM_of rfl (fun _ => Nat.le_of_ble_eq_true rfl) (fun Γ C hn0 => ?_)
  have C : Cx g Γ cX3_relation RX3 "relation" 3 (some .int) 8 (0 + er (rI r)) (0 + 6 * er (rI r)) := C
  generalize hQ : Qe g Γ (rI r) h 0 0 = Q
  show U g Γ 3 Q 0 0 0 [(0, .ref o), (1, .int a1), (2, .int a2)] [] h
  unfold f_X3_relation at hf
  replace hf := (bsome hf).choose_spec.2
  refine U_aload_n (n := 1) 0 C dX3_relation_0 rfl rfl rfl ?_
  refine U_iload_n (n := 2) 1 C dX3_relation_1 rfl rfl ?_
  rcases bsomeT hf with ⟨kv1, ev1, hf⟩ | ⟨v1, ev1, hf⟩
  · skip
    have hr := (Option.some.inj hf)
    subst hr
    subst hQ
    exact xv_RX3_178 kv1 C dX3_relation_2 (av := [.int a1]) rfl (rc_X3_requireRelation ev1) (M_X3_requireRelation ev1) (Nat.le_of_ble_eq_true rfl) (Nat.le_of_ble_eq_true rfl)
  refine cv_RX3_178 (n := 5) C dX3_relation_2 (av := [.int a1]) rfl (rc_X3_requireRelation ev1) (M_X3_requireRelation ev1) (Nat.le_of_ble_eq_true rfl) (Nat.zero_le _) (Nat.zero_le _) (Nat.le_of_ble_eq_true rfl) rfl ?_
  refine U_iload_n (n := 6) 2 C dX3_relation_5 rfl rfl ?_
  by_cases c2 : a2 = 0
  · replace hf := (if_pos c2).symm.trans hf
    refine U_tblIn (tgt := 48) C dX3_relation_6 (by rw [c2]; decide) (by rw [c2]; decide) (by rw [c2]; rfl) (by decide) ?_
    refine U_aload_n (n := 49) 0 C dX3_relation_48 rfl rfl rfl ?_
    refine gf_RX3_10 (n := 52) C dX3_relation_49 hf rfl (fun v3 hf => ?_)
    refine U_iload_n (n := 53) 1 C dX3_relation_52 rfl rfl ?_
    refine U_iload_n (n := 54) 2 C dX3_relation_53 rfl rfl ?_
    obtain ⟨v4, ev4, hf⟩ := bsome hf
    refine cv_RX3_181 (n := 57) C dX3_relation_54 (av := [.int a1, .int a2]) rfl (rc_X0_member ev4) (M_X0_member ev4) (Nat.le_of_ble_eq_true rfl) (Nat.zero_le _) (Nat.zero_le _) (Nat.le_of_ble_eq_true rfl) rfl ?_
    have hr := (Option.some.inj hf)
    subst hr
    subst hQ
    exact U_iret C dX3_relation_57 (Nat.le_refl 0) (Nat.le_refl 0)
  replace hf := (if_neg c2).symm.trans hf
  by_cases c5 : a2 = 1
  · replace hf := (if_pos c5).symm.trans hf
    refine U_tblIn (tgt := 48) C dX3_relation_6 (by rw [c5]; decide) (by rw [c5]; decide) (by rw [c5]; rfl) (by decide) ?_
    refine U_aload_n (n := 49) 0 C dX3_relation_48 rfl rfl rfl ?_
    refine gf_RX3_10 (n := 52) C dX3_relation_49 hf rfl (fun v6 hf => ?_)
    refine U_iload_n (n := 53) 1 C dX3_relation_52 rfl rfl ?_
    refine U_iload_n (n := 54) 2 C dX3_relation_53 rfl rfl ?_
    obtain ⟨v7, ev7, hf⟩ := bsome hf
    refine cv_RX3_181 (n := 57) C dX3_relation_54 (av := [.int a1, .int a2]) rfl (rc_X0_member ev7) (M_X0_member ev7) (Nat.le_of_ble_eq_true rfl) (Nat.zero_le _) (Nat.zero_le _) (Nat.le_of_ble_eq_true rfl) rfl ?_
    have hr := (Option.some.inj hf)
    subst hr
    subst hQ
    exact U_iret C dX3_relation_57 (Nat.le_refl 0) (Nat.le_refl 0)
  replace hf := (if_neg c5).symm.trans hf
  by_cases c8 : a2 = 2
  · replace hf := (if_pos c8).symm.trans hf
    refine U_tblIn (tgt := 48) C dX3_relation_6 (by rw [c8]; decide) (by rw [c8]; decide) (by rw [c8]; rfl) (by decide) ?_
    refine U_aload_n (n := 49) 0 C dX3_relation_48 rfl rfl rfl ?_
    refine gf_RX3_10 (n := 52) C dX3_relation_49 hf rfl (fun v9 hf => ?_)
    refine U_iload_n (n := 53) 1 C dX3_relation_52 rfl rfl ?_
    refine U_iload_n (n := 54) 2 C dX3_relation_53 rfl rfl ?_
    obtain ⟨v10, ev10, hf⟩ := bsome hf
    refine cv_RX3_181 (n := 57) C dX3_relation_54 (av := [.int a1, .int a2]) rfl (rc_X0_member ev10) (M_X0_member ev10) (Nat.le_of_ble_eq_true rfl) (Nat.zero_le _) (Nat.zero_le _) (Nat.le_of_ble_eq_true rfl) rfl ?_
    have hr := (Option.some.inj hf)
    subst hr
    subst hQ
    exact U_iret C dX3_relation_57 (Nat.le_refl 0) (Nat.le_refl 0)
  replace hf := (if_neg c8).symm.trans hf
  by_cases c11 : a2 = 3
  · replace hf := (if_pos c11).symm.trans hf
    refine U_tblIn (tgt := 48) C dX3_relation_6 (by rw [c11]; decide) (by rw [c11]; decide) (by rw [c11]; rfl) (by decide) ?_
    refine U_aload_n (n := 49) 0 C dX3_relation_48 rfl rfl rfl ?_
    refine gf_RX3_10 (n := 52) C dX3_relation_49 hf rfl (fun v12 hf => ?_)
    refine U_iload_n (n := 53) 1 C dX3_relation_52 rfl rfl ?_
    refine U_iload_n (n := 54) 2 C dX3_relation_53 rfl rfl ?_
    obtain ⟨v13, ev13, hf⟩ := bsome hf
    refine cv_RX3_181 (n := 57) C dX3_relation_54 (av := [.int a1, .int a2]) rfl (rc_X0_member ev13) (M_X0_member ev13) (Nat.le_of_ble_eq_true rfl) (Nat.zero_le _) (Nat.zero_le _) (Nat.le_of_ble_eq_true rfl) rfl ?_
    have hr := (Option.some.inj hf)
    subst hr
    subst hQ
    exact U_iret C dX3_relation_57 (Nat.le_refl 0) (Nat.le_refl 0)
  replace hf := (if_neg c11).symm.trans hf
  by_cases c14 : a2 = 4
  · replace hf := (if_pos c14).symm.trans hf
    refine U_tblIn (tgt := 48) C dX3_relation_6 (by rw [c14]; decide) (by rw [c14]; decide) (by rw [c14]; rfl) (by decide) ?_
    refine U_aload_n (n := 49) 0 C dX3_relation_48 rfl rfl rfl ?_
    refine gf_RX3_10 (n := 52) C dX3_relation_49 hf rfl (fun v15 hf => ?_)
    refine U_iload_n (n := 53) 1 C dX3_relation_52 rfl rfl ?_
    refine U_iload_n (n := 54) 2 C dX3_relation_53 rfl rfl ?_
    obtain ⟨v16, ev16, hf⟩ := bsome hf
    refine cv_RX3_181 (n := 57) C dX3_relation_54 (av := [.int a1, .int a2]) rfl (rc_X0_member ev16) (M_X0_member ev16) (Nat.le_of_ble_eq_true rfl) (Nat.zero_le _) (Nat.zero_le _) (Nat.le_of_ble_eq_true rfl) rfl ?_
    have hr := (Option.some.inj hf)
    subst hr
    subst hQ
    exact U_iret C dX3_relation_57 (Nat.le_refl 0) (Nat.le_refl 0)
  replace hf := (if_neg c14).symm.trans hf
  by_cases c17 : a2 = 5
  · replace hf := (if_pos c17).symm.trans hf
    refine U_tblIn (tgt := 58) C dX3_relation_6 (by rw [c17]; decide) (by rw [c17]; decide) (by rw [c17]; rfl) (by decide) ?_
    refine U_aload_n (n := 59) 0 C dX3_relation_58 rfl rfl rfl ?_
    refine gf_RX3_10 (n := 62) C dX3_relation_59 hf rfl (fun v18 hf => ?_)
    refine U_iload_n (n := 63) 1 C dX3_relation_62 rfl rfl ?_
    refine U_aload_n (n := 64) 0 C dX3_relation_63 rfl rfl rfl ?_
    refine gf_RX3_19 (n := 67) C dX3_relation_64 hf rfl (fun v19 hf => ?_)
    refine gf_RX3_129 (n := 70) C dX3_relation_67 hf rfl (fun v20 hf => ?_)
    obtain ⟨v21, ev21, hf⟩ := bsome hf
    refine cv_RX3_184 (n := 73) C dX3_relation_70 (av := [.int a1, .ref v20]) rfl (rc_X0_unknownIn ev21) (M_X0_unknownIn ev21) (Nat.le_of_ble_eq_true rfl) (Nat.zero_le _) (Nat.zero_le _) (Nat.le_of_ble_eq_true rfl) rfl ?_
    have hr := (Option.some.inj hf)
    subst hr
    subst hQ
    exact U_iret C dX3_relation_73 (Nat.le_refl 0) (Nat.le_refl 0)
  replace hf := (if_neg c17).symm.trans hf
  by_cases c22 : a2 = 6
  · replace hf := (if_pos c22).symm.trans hf
    refine U_tblIn (tgt := 74) C dX3_relation_6 (by rw [c22]; decide) (by rw [c22]; decide) (by rw [c22]; rfl) (by decide) ?_
    refine U_aload_n (n := 75) 0 C dX3_relation_74 rfl rfl rfl ?_
    refine gf_RX3_10 (n := 78) C dX3_relation_75 hf rfl (fun v23 hf => ?_)
    refine U_iload_n (n := 79) 1 C dX3_relation_78 rfl rfl ?_
    refine U_aload_n (n := 80) 0 C dX3_relation_79 rfl rfl rfl ?_
    refine gf_RX3_19 (n := 83) C dX3_relation_80 hf rfl (fun v24 hf => ?_)
    refine gf_RX3_129 (n := 86) C dX3_relation_83 hf rfl (fun v25 hf => ?_)
    obtain ⟨v26, ev26, hf⟩ := bsome hf
    refine cv_RX3_188 (n := 89) C dX3_relation_86 (av := [.int a1, .ref v25]) rfl (rc_X0_verdict ev26) (M_X0_verdict ev26) (Nat.le_of_ble_eq_true rfl) (Nat.zero_le _) (Nat.zero_le _) (Nat.le_of_ble_eq_true rfl) rfl ?_
    have hr := (Option.some.inj hf)
    subst hr
    subst hQ
    exact U_iret C dX3_relation_89 (Nat.le_refl 0) (Nat.le_refl 0)
  replace hf := (if_neg c22).symm.trans hf
  have hn27 : (a2).toInt < 0 ∨ 6 < (a2).toInt := by
    have := i32_ne c2
    have := i32_ne c5
    have := i32_ne c8
    have := i32_ne c11
    have := i32_ne c14
    have := i32_ne c17
    have := i32_ne c22
    simp only [Int32.reduceToInt] at *
    omega
  refine U_tblOut (tgt := 90) C dX3_relation_6 hn27 (by decide) ?_
  have hr := (Option.some.inj hf)
  subst hr
  subst hQ
  exact U_throw 0 C xown_RX3 rfl xfit_0 xcl_0 xin_0 xsr_157 xat_0 xgood_0 dX3_relation_90 dX3_relation_93 dX3_relation_94 dX3_relation_96 dX3_relation_99 (Nat.le_of_ble_eq_true rfl) (Nat.le_refl _) (Nat.le_refl _) rfl rfl
def f_X3_behind (o : Nat) (a1 : Int32) (h : Hp) : Option (Nat ⊕ Int64) :=
  (rc 3 h o).bind fun _ =>
  bindT (f_X3_requireRelation o a1 h) (fun kv1 => some (.inl kv1)) fun v1 =>
  (f_X3_reasonsOf o a1 h).bind fun v2 =>
  some (.inr v2)
theorem rc_X3_behind {o : Nat} {a1 : Int32} {h : Hp} {z} (hf : f_X3_behind o a1 h = some z) : rc 3 h o = some () := by
  unfold f_X3_behind at hf
  exact (bsome hf).choose_spec.1
set_option maxHeartbeats 2000000 in
set_option maxRecDepth 20000 in
theorem M_X3_behind {g : GT} {o : Nat} {a1 : Int32} {h : Hp} {r : (Nat ⊕ Int64)} (hf : f_X3_behind o a1 h = some r) : CM g yX3_behind cX3_behind 2 (some .long) 8 0 0 [.ref o, .int a1] h (rJ r) h := by
  refine CM_of rfl (fun _ => Nat.le_of_ble_eq_true rfl) (fun Γ C hn0 => ?_)
  have C : Cx g Γ cX3_behind RX3 "behind" 2 (some .long) 8 (0 + er (rJ r)) (0 + 6 * er (rJ r)) := C
  generalize hQ : Qe g Γ (rJ r) h 0 0 = Q
  show U g Γ 2 Q 0 0 0 [(0, .ref o), (1, .int a1)] [] h
  unfold f_X3_behind at hf
  replace hf := (bsome hf).choose_spec.2
  refine U_aload_n (n := 1) 0 C dX3_behind_0 rfl rfl rfl ?_
  refine U_iload_n (n := 2) 1 C dX3_behind_1 rfl rfl ?_
  rcases bsomeT hf with ⟨kv1, ev1, hf⟩ | ⟨v1, ev1, hf⟩
  · skip
    have hr := (Option.some.inj hf)
    subst hr
    subst hQ
    exact xv_RX3_178 kv1 C dX3_behind_2 (av := [.int a1]) rfl (rc_X3_requireRelation ev1) (M_X3_requireRelation ev1) (Nat.le_of_ble_eq_true rfl) (Nat.le_of_ble_eq_true rfl)
  refine cv_RX3_178 (n := 5) C dX3_behind_2 (av := [.int a1]) rfl (rc_X3_requireRelation ev1) (M_X3_requireRelation ev1) (Nat.le_of_ble_eq_true rfl) (Nat.zero_le _) (Nat.zero_le _) (Nat.le_of_ble_eq_true rfl) rfl ?_
  refine U_aload_n (n := 6) 0 C dX3_behind_5 rfl rfl rfl ?_
  refine U_iload_n (n := 7) 1 C dX3_behind_6 rfl rfl ?_
  obtain ⟨v2, ev2, hf⟩ := bsome hf
  refine cv_RX3_191 (n := 10) C dX3_behind_7 (av := [.int a1]) rfl (rc_X3_reasonsOf ev2) (M_X3_reasonsOf ev2) (Nat.le_of_ble_eq_true rfl) (Nat.zero_le _) (Nat.zero_le _) (Nat.le_of_ble_eq_true rfl) rfl ?_
  have hr := (Option.some.inj hf)
  subst hr
  subst hQ
  exact U_lret C dX3_behind_10 (Nat.le_refl 0) (Nat.le_refl 0)
def l_X3_waysFrom_24 (p0 : Int32) (p1 : Int32) (p2 : Nat) (p3 : Nat) (p4 : Nat) (p5 : Int32) (F : Int32 → Int32 → Nat → Nat → Nat → Hp → Option (Int32 × Hp)) : Nat → Int32 → Int32 → Hp → Option (Int32 × Hp)
  | 0, _, _, _ => none
  | fuel + 1, x6, x7, h =>
    if (1 : Int32) < x7 then (
      some ((x6, h))
    ) else (
      (wI h p3 p5 x7).bind fun h5 =>
      (f_X0_isViolatedWith p4 p5 p3 h5).bind fun v6 =>
      bind2 (
        if v6 = 0 then (
          bind2 (F (p0 + (1 : Int32)) p1 p2 p3 p4 h5) fun v13 h14 =>
          some (((x6 + v13), h14))
        ) else (
          some ((x6, h5))
        )
      ) fun v8 h9 =>
      l_X3_waysFrom_24 p0 p1 p2 p3 p4 p5 F fuel v8 (x7 + 2) h9
    )
def f_X3_waysFrom : Nat → Int32 → Int32 → Nat → Nat → Nat → Hp → Option (Int32 × Hp)
  | 0, _, _, _, _, _, _ => none
  | d + 1, a0, a1, a2, a3, a4, h =>
    if a1 ≤ a0 then (
      some (((1 : Int32), h))
    ) else (
      if a0 < (10 : Int32) then (
        (aI h a2 a0).bind fun v3 =>
        bind2 (l_X3_waysFrom_24 a0 a1 a2 a3 a4 v3 (f_X3_waysFrom d) FU (0 : Int32) (-1 : Int32) h) fun v15 h16 =>
        (wI h16 a3 v3 (-100 : Int32)).bind fun h17 =>
        some ((v15, h17))
      ) else (
        some (((1 : Int32), h))
      )
    )
set_option maxHeartbeats 2000000 in
set_option maxRecDepth 20000 in
theorem L_X3_waysFrom_24 {g : GT} {Γ : CT} {Q : State → Prop} {mc ms : Nat} {d : Nat} (C : Cx g Γ cX3_waysFrom RX3 "waysFrom" 8 (some .int) (9 + (d + 1)) mc ms) {F : Int32 → Int32 → Nat → Nat → Nat → Hp → Option (Int32 × Hp)} (ihF : ∀ {ba0 : Int32} {ba1 : Int32} {ba2 : Nat} {ba3 : Nat} {ba4 : Nat} {bh : Hp} {br : Int32} {bh2 : Hp}, F ba0 ba1 ba2 ba3 ba4 bh = some (br, bh2) → CM g yX3_waysFrom cX3_waysFrom 8 (some .int) (9 + d) 0 0 [.int ba0, .int ba1, .ref ba2, .ref ba3, .ref ba4] bh (.inr (some (.int br))) bh2) {p0 : Int32} {p1 : Int32} {p2 : Nat} {p3 : Nat} {p4 : Nat} {p5 : Int32} : ∀ {fuel : Nat} {x6 : Int32} {x7 : Int32} {h : Hp} {y6 : Int32} {hy : Hp}, l_X3_waysFrom_24 p0 p1 p2 p3 p4 p5 F fuel x6 x7 h = some (y6, hy) → U g Γ 8 Q 0 0 69 [(3, .ref p3), (5, .int p5), (6, .int y6)] [] hy → U g Γ 8 Q 0 0 24 [(0, .int p0), (1, .int p1), (2, .ref p2), (3, .ref p3), (4, .ref p4), (5, .int p5), (6, .int x6), (7, .int x7)] [] h := by
  intro fuel
  induction fuel with
  | zero =>
    intro x6 x7 h y6 hy hf J0
    simp only [l_X3_waysFrom_24, reduceCtorEq] at hf
  | succ fuel ih =>
    intro x6 x7 h y6 hy hf J0
    rw [l_X3_waysFrom_24] at hf
    refine U_iload (n := 26) 7 C dX3_waysFrom_24 rfl rfl ?_
    refine U_iconst (n := 27) (1 : Int32) C dX3_waysFrom_26 kiconst_1 rfl ?_
    refine U_icgt (tgt := 69) (n := 30) C dX3_waysFrom_27 (by decide) rfl (fun c4 => ?_) (fun c4 => ?_)
    · replace hf := (if_pos c4).symm.trans hf
      obtain ⟨hr0, hs0⟩ := Prod.mk.inj (Option.some.inj hf)
      subst hr0
      subst hs0
      exact U_lv [3, 5, 6] rfl J0
    · replace hf := (if_neg c4).symm.trans hf
      refine U_aload_n (n := 31) 3 C dX3_waysFrom_30 rfl rfl rfl ?_
      refine U_iload (n := 33) 5 C dX3_waysFrom_31 rfl rfl ?_
      refine U_iload (n := 35) 7 C dX3_waysFrom_33 rfl rfl ?_
      refine U_iast (n := 36) C dX3_waysFrom_35 hf rfl (fun h5 hf => ?_)
      refine U_aload (n := 38) 4 C dX3_waysFrom_36 rfl rfl rfl ?_
      refine U_iload (n := 40) 5 C dX3_waysFrom_38 rfl rfl ?_
      refine U_aload_n (n := 41) 3 C dX3_waysFrom_40 rfl rfl rfl ?_
      obtain ⟨v6, ev6, hf⟩ := bsome hf
      refine cv_RX3_365 (n := 44) C dX3_waysFrom_41 (av := [.int p5, .ref p3]) rfl (rc_X0_isViolatedWith ev6) (M_X0_isViolatedWith ev6) (by omega) (Nat.zero_le _) (Nat.zero_le _) (Nat.le_of_ble_eq_true rfl) rfl ?_
      refine U_join2 (fun v8 h9 => U g Γ 8 Q 0 0 63 [(0, .int p0), (1, .int p1), (2, .ref p2), (3, .ref p3), (4, .ref p4), (5, .int p5), (6, .int v8), (7, .int x7)] [] h9) hf (fun v8 h9 hf => ?_) (fun v8 h9 hf J11 => ?_)
      · skip
        refine U_iinc (n := 66) (v := (x7 + 2)) (lv2 := [(7, .int (x7 + 2)), (0, .int p0), (1, .int p1), (2, .ref p2), (3, .ref p3), (4, .ref p4), (5, .int p5), (6, .int v8)]) 7 C dX3_waysFrom_63 rfl rfl (by decide) rfl rfl ?_
        refine U_goto (n := 0) (tgt := 24) C dX3_waysFrom_66 (by decide) ?_
        exact U_lv [1, 2, 3, 4, 5, 6, 7, 0] rfl (ih hf J0)
      · skip
        refine U_ifne (tgt := 63) (n := 47) C dX3_waysFrom_44 (by decide) rfl (fun c7 => ?_) (fun c7 => ?_)
        · replace hf := (if_pos c7).symm.trans hf
          refine U_iload (n := 49) 6 C dX3_waysFrom_47 rfl rfl ?_
          refine U_iload_n (n := 50) 0 C dX3_waysFrom_49 rfl rfl ?_
          refine U_iconst (n := 51) (1 : Int32) C dX3_waysFrom_50 kiconst_1 rfl ?_
          refine U_iadd (n := 52) C dX3_waysFrom_51 rfl ?_
          refine U_iload_n (n := 53) 1 C dX3_waysFrom_52 rfl rfl ?_
          refine U_aload_n (n := 54) 2 C dX3_waysFrom_53 rfl rfl rfl ?_
          refine U_aload_n (n := 55) 3 C dX3_waysFrom_54 rfl rfl rfl ?_
          refine U_aload (n := 57) 4 C dX3_waysFrom_55 rfl rfl rfl ?_
          obtain ⟨v13, h14, ev13, hf⟩ := bsome2 hf
          refine cv_RX3_197 (n := 60) C dX3_waysFrom_57 (av := [.int (p0 + (1 : Int32)), .int p1, .ref p2, .ref p3, .ref p4]) rfl (ihF ev13) (by omega) (Nat.zero_le _) (Nat.zero_le _) (Nat.le_of_ble_eq_true rfl) rfl ?_
          refine U_iadd (n := 61) C dX3_waysFrom_60 rfl ?_
          refine U_istore (n := 63) (lv2 := [(6, .int (x6 + v13)), (0, .int p0), (1, .int p1), (2, .ref p2), (3, .ref p3), (4, .ref p4), (5, .int p5), (7, .int x7)]) C dX3_waysFrom_61 (by decide) rfl rfl ?_
          obtain ⟨hr0, hs0⟩ := Prod.mk.inj (Option.some.inj hf)
          subst hr0
          subst hs0
          exact U_lv [1, 2, 3, 4, 5, 6, 0, 7] rfl J11
        · replace hf := (if_neg c7).symm.trans hf
          obtain ⟨hr0, hs0⟩ := Prod.mk.inj (Option.some.inj hf)
          subst hr0
          subst hs0
          exact U_lv [0, 1, 2, 3, 4, 5, 6, 7] rfl J11
set_option maxHeartbeats 2000000 in
set_option maxRecDepth 20000 in
theorem M_X3_waysFrom {g : GT} {d : Nat} {a0 : Int32} {a1 : Int32} {a2 : Nat} {a3 : Nat} {a4 : Nat} {h : Hp} {r : Int32} {h2 : Hp} (hf : f_X3_waysFrom d a0 a1 a2 a3 a4 h = some (r, h2)) : CM g yX3_waysFrom cX3_waysFrom 8 (some .int) (9 + d) 0 0 [.int a0, .int a1, .ref a2, .ref a3, .ref a4] h (.inr (some (.int r))) h2 := by
  induction d generalizing a0 a1 a2 a3 a4 h r h2 with
  | zero => simp only [f_X3_waysFrom, reduceCtorEq] at hf
  | succ d ih =>
  refine CM_of rfl (fun _ => Nat.le_of_ble_eq_true rfl) (fun Γ C hn0 => ?_)
  have C : Cx g Γ cX3_waysFrom RX3 "waysFrom" 8 (some .int) (9 + (d + 1)) 0 0 := C
  generalize hQ : Qe g Γ (.inr (some (.int r))) h2 0 0 = Q
  show U g Γ 8 Q 0 0 0 [(0, .int a0), (1, .int a1), (2, .ref a2), (3, .ref a3), (4, .ref a4)] [] h
  rw [f_X3_waysFrom] at hf
  refine U_iload_n (n := 1) 0 C dX3_waysFrom_0 rfl rfl ?_
  refine U_iload_n (n := 2) 1 C dX3_waysFrom_1 rfl rfl ?_
  refine U_icge (tgt := 11) (n := 5) C dX3_waysFrom_2 (by decide) rfl (fun c1 => ?_) (fun c1 => ?_)
  · replace hf := (if_pos c1).symm.trans hf
    refine U_iconst (n := 12) (1 : Int32) C dX3_waysFrom_11 kiconst_1 rfl ?_
    obtain ⟨hr1, hr2⟩ := Prod.mk.inj (Option.some.inj hf)
    subst hr1; subst hr2
    subst hQ
    exact U_iret C dX3_waysFrom_12 (Nat.le_refl 0) (Nat.le_refl 0)
  · replace hf := (if_neg c1).symm.trans hf
    refine U_iload_n (n := 6) 0 C dX3_waysFrom_5 rfl rfl ?_
    refine U_bipush (n := 8) (10 : Int32) C dX3_waysFrom_6 kbipush_10 rfl ?_
    refine U_iclt (tgt := 13) (n := 11) C dX3_waysFrom_8 (by decide) rfl (fun c2 => ?_) (fun c2 => ?_)
    · replace hf := (if_pos c2).symm.trans hf
      refine U_aload_n (n := 14) 2 C dX3_waysFrom_13 rfl rfl rfl ?_
      refine U_iload_n (n := 15) 0 C dX3_waysFrom_14 rfl rfl ?_
      refine U_iald (n := 16) C dX3_waysFrom_15 hf rfl (fun v3 hf => ?_)
      refine U_istore (n := 18) (lv2 := [(5, .int v3), (0, .int a0), (1, .int a1), (2, .ref a2), (3, .ref a3), (4, .ref a4)]) C dX3_waysFrom_16 (by decide) rfl rfl ?_
      refine U_iconst (n := 19) (0 : Int32) C dX3_waysFrom_18 kiconst_0 rfl ?_
      refine U_istore (n := 21) (lv2 := [(6, .int (0 : Int32)), (5, .int v3), (0, .int a0), (1, .int a1), (2, .ref a2), (3, .ref a3), (4, .ref a4)]) C dX3_waysFrom_19 (by decide) rfl rfl ?_
      refine U_iconst (n := 22) (-1 : Int32) C dX3_waysFrom_21 kiconst_m1 rfl ?_
      refine U_istore (n := 24) (lv2 := [(7, .int (-1 : Int32)), (6, .int (0 : Int32)), (5, .int v3), (0, .int a0), (1, .int a1), (2, .ref a2), (3, .ref a3), (4, .ref a4)]) C dX3_waysFrom_22 (by decide) rfl rfl ?_
      refine U_join2 (fun v15 h16 => U g Γ 8 Q 0 0 69 [(3, .ref a3), (5, .int v3), (6, .int v15)] [] h16) hf (fun v15 h16 hf => ?_) (fun v15 h16 hf J => U_lv [3, 4, 5, 6, 7, 2, 1, 0] rfl (L_X3_waysFrom_24 C ih hf J))
      refine U_aload_n (n := 70) 0 C dX3_waysFrom_69 rfl rfl rfl ?_
      refine U_iload (n := 72) 1 C dX3_waysFrom_70 rfl rfl ?_
      refine U_bipush (n := 74) (-100 : Int32) C dX3_waysFrom_72 kbipush_m100 rfl ?_
      refine U_iast (n := 75) C dX3_waysFrom_74 hf rfl (fun h17 hf => ?_)
      refine U_iload (n := 77) 2 C dX3_waysFrom_75 rfl rfl ?_
      obtain ⟨hr1, hr2⟩ := Prod.mk.inj (Option.some.inj hf)
      subst hr1; subst hr2
      subst hQ
      exact U_iret C dX3_waysFrom_77 (Nat.le_refl 0) (Nat.le_refl 0)
    · replace hf := (if_neg c2).symm.trans hf
      refine U_iconst (n := 12) (1 : Int32) C dX3_waysFrom_11 kiconst_1 rfl ?_
      obtain ⟨hr1, hr2⟩ := Prod.mk.inj (Option.some.inj hf)
      subst hr1; subst hr2
      subst hQ
      exact U_iret C dX3_waysFrom_12 (Nat.le_refl 0) (Nat.le_refl 0)
def l_X3_completions_45 (p0 : Nat) : Nat → Int32 → Int32 → Hp → Option (Int32 × Hp)
  | 0, _, _, _ => none
  | fuel + 1, x2, x3, h =>
    (fR 3 0 h p0).bind fun v8 =>
    (fI 0 1 h v8).bind fun v9 =>
    if v9 ≤ x3 then (
      some ((x2, h))
    ) else (
      if (10 : Int32) ≤ x2 then (
        some ((x2, h))
      ) else (
        (fR 3 1 h p0).bind fun v12 =>
        (fR 2 4 h v12).bind fun v13 =>
        (aI h v13 x3).bind fun v14 =>
        bind2 (
          if v14 = 0 then (
            (fR 3 6 h p0).bind fun v21 =>
            (wI h v21 x2 x3).bind fun h22 =>
            some (((x2 + 1), h22))
          ) else (
            some ((x2, h))
          )
        ) fun v16 h17 =>
        l_X3_completions_45 p0 fuel v16 (x3 + 1) h17
      )
    )
def f_X3_completions (o : Nat) (h : Hp) : Option ((Nat ⊕ Int32) × Hp) :=
  (rc 3 h o).bind fun _ =>
  (fR 3 1 h o).bind fun v1 =>
  (fR 3 0 h o).bind fun v2 =>
  (fI 0 1 h v2).bind fun v3 =>
  (f_X2_countKind v1 (0 : Int32) v3 h).bind fun v4 =>
  if v4 ≤ (10 : Int32) then (
    (f_X3_countViolated o h).bind fun v6 =>
    if v6 ≤ 0 then (
      bind2 (l_X3_completions_45 o FU (0 : Int32) (0 : Int32) h) fun v23 h24 =>
      (fR 3 6 h24 o).bind fun v25 =>
      (fR 3 1 h24 o).bind fun v26 =>
      (fR 2 3 h24 v26).bind fun v27 =>
      (fR 3 0 h24 o).bind fun v28 =>
      bind2 (f_X3_waysFrom 12 (0 : Int32) v23 v25 v27 v28 h24) fun v29 h30 =>
      some ((.inr v29, h30))
    ) else (
      some ((.inr (0 : Int32), h))
    )
  ) else (
    some ((.inl 2, h))
  )
set_option maxHeartbeats 2000000 in
set_option maxRecDepth 20000 in
theorem L_X3_completions_45 {g : GT} {Γ : CT} {Q : State → Prop} {mc ms : Nat} (C : Cx g Γ cX3_completions RX3 "completions" 4 (some .int) 22 mc ms) {p0 : Nat} : ∀ {fuel : Nat} {x2 : Int32} {x3 : Int32} {h : Hp} {y2 : Int32} {hy : Hp}, l_X3_completions_45 p0 fuel x2 x3 h = some (y2, hy) → U g Γ 4 Q 0 0 90 [(0, .ref p0), (2, .int y2)] [] hy → U g Γ 4 Q 0 0 45 [(0, .ref p0), (2, .int x2), (3, .int x3)] [] h := by
  intro fuel
  induction fuel with
  | zero =>
    intro x2 x3 h y2 hy hf J0
    simp only [l_X3_completions_45, reduceCtorEq] at hf
  | succ fuel ih =>
    intro x2 x3 h y2 hy hf J0
    rw [l_X3_completions_45] at hf
    refine U_iload_n (n := 46) 2 C dX3_completions_45 rfl rfl ?_
    refine U_aload_n (n := 47) 0 C dX3_completions_46 rfl rfl rfl ?_
    refine gf_RX3_10 (n := 50) C dX3_completions_47 hf rfl (fun v8 hf => ?_)
    refine gf_RX3_77 (n := 53) C dX3_completions_50 hf rfl (fun v9 hf => ?_)
    refine U_icge (tgt := 90) (n := 56) C dX3_completions_53 (by decide) rfl (fun c10 => ?_) (fun c10 => ?_)
    · replace hf := (if_pos c10).symm.trans hf
      obtain ⟨hr0, hs0⟩ := Prod.mk.inj (Option.some.inj hf)
      subst hr0
      subst hs0
      exact U_lv [0, 1] rfl J0
    · replace hf := (if_neg c10).symm.trans hf
      refine U_iload_n (n := 57) 1 C dX3_completions_56 rfl rfl ?_
      refine U_bipush (n := 59) (10 : Int32) C dX3_completions_57 kbipush_10 rfl ?_
      refine U_icge (tgt := 90) (n := 62) C dX3_completions_59 (by decide) rfl (fun c11 => ?_) (fun c11 => ?_)
      · replace hf := (if_pos c11).symm.trans hf
        obtain ⟨hr0, hs0⟩ := Prod.mk.inj (Option.some.inj hf)
        subst hr0
        subst hs0
        exact U_lv [0, 1] rfl J0
      · replace hf := (if_neg c11).symm.trans hf
        refine U_aload_n (n := 63) 0 C dX3_completions_62 rfl rfl rfl ?_
        refine gf_RX3_19 (n := 66) C dX3_completions_63 hf rfl (fun v12 hf => ?_)
        refine gf_RX3_100 (n := 69) C dX3_completions_66 hf rfl (fun v13 hf => ?_)
        refine U_iload_n (n := 70) 2 C dX3_completions_69 rfl rfl ?_
        refine U_iald (n := 71) C dX3_completions_70 hf rfl (fun v14 hf => ?_)
        refine U_join2 (fun v16 h17 => U g Γ 4 Q 0 0 84 [(0, .ref p0), (2, .int v16), (3, .int x3)] [] h17) hf (fun v16 h17 hf => ?_) (fun v16 h17 hf J19 => ?_)
        · skip
          refine U_iinc (n := 87) (v := (x3 + 1)) (lv2 := [(3, .int (x3 + 1)), (0, .ref p0), (2, .int v16)]) 2 C dX3_completions_84 rfl rfl (by decide) rfl rfl ?_
          refine U_goto (n := 0) (tgt := 45) C dX3_completions_87 (by decide) ?_
          exact U_lv [1, 2, 0] rfl (ih hf J0)
        · skip
          refine U_ifne (tgt := 84) (n := 74) C dX3_completions_71 (by decide) rfl (fun c15 => ?_) (fun c15 => ?_)
          · replace hf := (if_pos c15).symm.trans hf
            refine U_aload_n (n := 75) 0 C dX3_completions_74 rfl rfl rfl ?_
            refine gf_RX3_42 (n := 78) C dX3_completions_75 hf rfl (fun v21 hf => ?_)
            refine U_iload_n (n := 79) 1 C dX3_completions_78 rfl rfl ?_
            refine U_iload_n (n := 80) 2 C dX3_completions_79 rfl rfl ?_
            refine U_iast (n := 81) C dX3_completions_80 hf rfl (fun h22 hf => ?_)
            refine U_iinc (n := 84) (v := (x2 + 1)) (lv2 := [(2, .int (x2 + 1)), (0, .ref p0), (3, .int x3)]) 1 C dX3_completions_81 rfl rfl (by decide) rfl rfl ?_
            obtain ⟨hr0, hs0⟩ := Prod.mk.inj (Option.some.inj hf)
            subst hr0
            subst hs0
            exact U_lv [1, 0, 2] rfl J19
          · replace hf := (if_neg c15).symm.trans hf
            obtain ⟨hr0, hs0⟩ := Prod.mk.inj (Option.some.inj hf)
            subst hr0
            subst hs0
            exact U_lv [0, 1, 2] rfl J19
theorem rc_X3_completions {o : Nat} {h : Hp} {z} (hf : f_X3_completions o h = some z) : rc 3 h o = some () := by
  unfold f_X3_completions at hf
  exact (bsome hf).choose_spec.1
set_option maxHeartbeats 2000000 in
set_option maxRecDepth 20000 in
theorem M_X3_completions {g : GT} {o : Nat} {h : Hp} {r : (Nat ⊕ Int32)} {h2 : Hp} (hf : f_X3_completions o h = some (r, h2)) : CM g yX3_completions cX3_completions 4 (some .int) 22 0 0 [.ref o] h (rI r) h2 := by
  refine CM_of rfl (fun _ => Nat.le_of_ble_eq_true rfl) (fun Γ C hn0 => ?_)
  have C : Cx g Γ cX3_completions RX3 "completions" 4 (some .int) 22 (0 + er (rI r)) (0 + 6 * er (rI r)) := C
  generalize hQ : Qe g Γ (rI r) h2 0 0 = Q
  show U g Γ 4 Q 0 0 0 [(0, .ref o)] [] h
  unfold f_X3_completions at hf
  replace hf := (bsome hf).choose_spec.2
  refine U_aload_n (n := 1) 0 C dX3_completions_0 rfl rfl rfl ?_
  refine gf_RX3_19 (n := 4) C dX3_completions_1 hf rfl (fun v1 hf => ?_)
  refine U_iconst (n := 5) (0 : Int32) C dX3_completions_4 kiconst_0 rfl ?_
  refine U_aload_n (n := 6) 0 C dX3_completions_5 rfl rfl rfl ?_
  refine gf_RX3_10 (n := 9) C dX3_completions_6 hf rfl (fun v2 hf => ?_)
  refine gf_RX3_77 (n := 12) C dX3_completions_9 hf rfl (fun v3 hf => ?_)
  obtain ⟨v4, ev4, hf⟩ := bsome hf
  refine cv_RX3_141 (n := 15) C dX3_completions_12 (av := [.int (0 : Int32), .int v3]) rfl (rc_X2_countKind ev4) (M_X2_countKind ev4) (Nat.le_of_ble_eq_true rfl) (Nat.zero_le _) (Nat.zero_le _) (Nat.le_of_ble_eq_true rfl) rfl ?_
  refine U_istore_n (n := 16) (lv2 := [(1, .int v4), (0, .ref o)]) C dX3_completions_15 (by decide) rfl rfl ?_
  refine U_iload_n (n := 17) 0 C dX3_completions_16 rfl rfl ?_
  refine U_bipush (n := 19) (10 : Int32) C dX3_completions_17 kbipush_10 rfl ?_
  refine U_icle (tgt := 32) (n := 22) C dX3_completions_19 (by decide) rfl (fun c5 => ?_) (fun c5 => ?_)
  · replace hf := (if_pos c5).symm.trans hf
    refine U_aload_n (n := 33) 1 C dX3_completions_32 rfl rfl rfl ?_
    obtain ⟨v6, ev6, hf⟩ := bsome hf
    refine cv_RX3_172 (n := 36) C dX3_completions_33 (av := []) rfl (rc_X3_countViolated ev6) (M_X3_countViolated ev6) (Nat.le_of_ble_eq_true rfl) (Nat.zero_le _) (Nat.zero_le _) (Nat.le_of_ble_eq_true rfl) rfl ?_
    refine U_ifle (tgt := 41) (n := 39) C dX3_completions_36 (by decide) rfl (fun c7 => ?_) (fun c7 => ?_)
    · replace hf := (if_pos c7).symm.trans hf
      refine U_iconst (n := 42) (0 : Int32) C dX3_completions_41 kiconst_0 rfl ?_
      refine U_istore_n (n := 43) (lv2 := [(2, .int (0 : Int32)), (1, .int v4), (0, .ref o)]) C dX3_completions_42 (by decide) rfl rfl ?_
      refine U_iconst (n := 44) (0 : Int32) C dX3_completions_43 kiconst_0 rfl ?_
      refine U_istore_n (n := 45) (lv2 := [(3, .int (0 : Int32)), (2, .int (0 : Int32)), (1, .int v4), (0, .ref o)]) C dX3_completions_44 (by decide) rfl rfl ?_
      refine U_join2 (fun v23 h24 => U g Γ 4 Q 0 0 90 [(0, .ref o), (2, .int v23)] [] h24) hf (fun v23 h24 hf => ?_) (fun v23 h24 hf J => U_lv [3, 1, 0] rfl (L_X3_completions_45 C hf J))
      refine U_iconst (n := 91) (0 : Int32) C dX3_completions_90 kiconst_0 rfl ?_
      refine U_iload_n (n := 92) 1 C dX3_completions_91 rfl rfl ?_
      refine U_aload_n (n := 93) 0 C dX3_completions_92 rfl rfl rfl ?_
      refine gf_RX3_42 (n := 96) C dX3_completions_93 hf rfl (fun v25 hf => ?_)
      refine U_aload_n (n := 97) 0 C dX3_completions_96 rfl rfl rfl ?_
      refine gf_RX3_19 (n := 100) C dX3_completions_97 hf rfl (fun v26 hf => ?_)
      refine gf_RX3_129 (n := 103) C dX3_completions_100 hf rfl (fun v27 hf => ?_)
      refine U_aload_n (n := 104) 0 C dX3_completions_103 rfl rfl rfl ?_
      refine gf_RX3_10 (n := 107) C dX3_completions_104 hf rfl (fun v28 hf => ?_)
      obtain ⟨v29, h30, ev29, hf⟩ := bsome2 hf
      refine cv_RX3_197 (n := 110) C dX3_completions_107 (av := [.int (0 : Int32), .int v23, .ref v25, .ref v27, .ref v28]) rfl (M_X3_waysFrom ev29) (by omega) (Nat.zero_le _) (Nat.zero_le _) (Nat.le_of_ble_eq_true rfl) rfl ?_
      obtain ⟨hr1, hr2⟩ := Prod.mk.inj (Option.some.inj hf)
      subst hr1; subst hr2
      subst hQ
      exact U_iret C dX3_completions_110 (Nat.le_refl 0) (Nat.le_refl 0)
    · replace hf := (if_neg c7).symm.trans hf
      refine U_iconst (n := 40) (0 : Int32) C dX3_completions_39 kiconst_0 rfl ?_
      obtain ⟨hr1, hr2⟩ := Prod.mk.inj (Option.some.inj hf)
      subst hr1; subst hr2
      subst hQ
      exact U_iret C dX3_completions_40 (Nat.le_refl 0) (Nat.le_refl 0)
  · replace hf := (if_neg c5).symm.trans hf
    obtain ⟨hr1, hr2⟩ := Prod.mk.inj (Option.some.inj hf)
    subst hr1; subst hr2
    subst hQ
    exact U_throw 2 C xown_RX3 rfl xfit_2 xcl_2 xin_2 xsr_195 xat_2 xgood_2 dX3_completions_22 dX3_completions_25 dX3_completions_26 dX3_completions_28 dX3_completions_31 (Nat.le_of_ble_eq_true rfl) (Nat.le_refl _) (Nat.le_refl _) rfl rfl
def l_X3_cocircuit_33 (p0 : Nat) (p1 : Int32) (p2 : Int32) (h : Hp) : Nat → Int32 → Int32 → Int32 → Option (Int32 ⊕ (Nat ⊕ Int32))
  | 0, _, _, _ => none
  | fuel + 1, x3, x4, x5 =>
    (fR 3 0 h p0).bind fun v4 =>
    (fI 0 0 h v4).bind fun v5 =>
    if v5 ≤ x5 then (
      some (.inl x3)
    ) else (
      (f_X3_orderedSign p0 p1 p2 x5 h).bind fun v7 =>
      if v7 = (-100 : Int32) then (
        some (.inr (.inl 2))
      ) else (
        (
          if v7 = (1 : Int32) then (
            some ((x3 + x4))
          ) else (
            if v7 = (-1 : Int32) then (
              some ((x3 + ((2 : Int32) * x4)))
            ) else (
              some x3
            )
          )
        ).bind fun v10 =>
        l_X3_cocircuit_33 p0 p1 p2 h fuel v10 (x4 * (4 : Int32)) (x5 + 1)
      )
    )
def f_X3_cocircuit (o : Nat) (a1 : Int32) (a2 : Int32) (h : Hp) : Option (Nat ⊕ Int32) :=
  (rc 3 h o).bind fun _ =>
  bindT (f_X3_requirePoint o a1 h) (fun kv1 => some (.inl kv1)) fun v1 =>
  bindT (f_X3_requirePoint o a2 h) (fun kv2 => some (.inl kv2)) fun v2 =>
  if a1 = a2 then (
    some (.inl 0)
  ) else (
    bindR1 (l_X3_cocircuit_33 o a1 a2 h FU (0 : Int32) (1 : Int32) (0 : Int32)) fun v15 =>
    some (.inr v15)
  )
set_option maxHeartbeats 2000000 in
set_option maxRecDepth 20000 in
theorem L_X3_cocircuit_33 {g : GT} {Γ : CT} {Q : State → Prop} {mc ms : Nat} (C : Cx g Γ cX3_cocircuit RX3 "cocircuit" 7 (some .int) 9 mc ms) {p0 : Nat} {p1 : Int32} {p2 : Int32} {h : Hp} : ∀ {fuel : Nat} {x3 : Int32} {x4 : Int32} {x5 : Int32} {out : (Int32 ⊕ (Nat ⊕ Int32))}, l_X3_cocircuit_33 p0 p1 p2 h fuel x3 x4 x5 = some out → (∀ y3, out = .inl y3 → U g Γ 7 Q 0 0 111 [(3, .int y3)] [] h) → (∀ r, out = .inr r → (Qe g Γ (rI r) h 0 0 = Q ∧ mc = 0 + er (rI r) ∧ ms = 0 + 6 * er (rI r))) → U g Γ 7 Q 0 0 33 [(0, .ref p0), (1, .int p1), (2, .int p2), (3, .int x3), (4, .int x4), (5, .int x5)] [] h := by
  intro fuel
  induction fuel with
  | zero =>
    intro x3 x4 x5 out hf J0 R0
    simp only [l_X3_cocircuit_33, reduceCtorEq] at hf
  | succ fuel ih =>
    intro x3 x4 x5 out hf J0 R0
    rw [l_X3_cocircuit_33] at hf
    refine U_iload (n := 35) 5 C dX3_cocircuit_33 rfl rfl ?_
    refine U_aload_n (n := 36) 0 C dX3_cocircuit_35 rfl rfl rfl ?_
    refine gf_RX3_10 (n := 39) C dX3_cocircuit_36 hf rfl (fun v4 hf => ?_)
    refine gf_RX3_163 (n := 42) C dX3_cocircuit_39 hf rfl (fun v5 hf => ?_)
    refine U_icge (tgt := 111) (n := 45) C dX3_cocircuit_42 (by decide) rfl (fun c6 => ?_) (fun c6 => ?_)
    · replace hf := (if_pos c6).symm.trans hf
      have hr := Option.some.inj hf
      subst hr
      exact U_lv [3] rfl (J0 _ rfl)
    · replace hf := (if_neg c6).symm.trans hf
      refine U_aload_n (n := 46) 0 C dX3_cocircuit_45 rfl rfl rfl ?_
      refine U_iload_n (n := 47) 1 C dX3_cocircuit_46 rfl rfl ?_
      refine U_iload_n (n := 48) 2 C dX3_cocircuit_47 rfl rfl ?_
      refine U_iload (n := 50) 5 C dX3_cocircuit_48 rfl rfl ?_
      obtain ⟨v7, ev7, hf⟩ := bsome hf
      refine cv_RX3_89 (n := 53) C dX3_cocircuit_50 (av := [.int p1, .int p2, .int x5]) rfl (rc_X3_orderedSign ev7) (M_X3_orderedSign ev7) (Nat.le_of_ble_eq_true rfl) (Nat.zero_le _) (Nat.zero_le _) (Nat.le_of_ble_eq_true rfl) rfl ?_
      refine U_istore (n := 55) (lv2 := [(6, .int v7), (0, .ref p0), (1, .int p1), (2, .int p2), (3, .int x3), (4, .int x4), (5, .int x5)]) C dX3_cocircuit_53 (by decide) rfl rfl ?_
      refine U_iload (n := 57) 0 C dX3_cocircuit_55 rfl rfl ?_
      refine U_bipush (n := 59) (-100 : Int32) C dX3_cocircuit_57 kbipush_m100 rfl ?_
      refine U_icne (tgt := 72) (n := 62) C dX3_cocircuit_59 (by decide) rfl (fun c8 => ?_) (fun c8 => ?_)
      · replace hf := (if_pos c8).symm.trans hf
        have hr := Option.some.inj hf
        subst hr
        have hQ := R0 _ rfl
        obtain ⟨hQ, hq1, hq2⟩ := hQ
        subst hq1; subst hq2
        subst hQ
        exact U_throw 2 C xown_RX3 rfl xfit_2 xcl_2 xin_2 xsr_201 xat_2 xgood_2 dX3_cocircuit_62 dX3_cocircuit_65 dX3_cocircuit_66 dX3_cocircuit_68 dX3_cocircuit_71 (Nat.le_of_ble_eq_true rfl) (Nat.le_refl _) (Nat.le_refl _) rfl rfl
      · replace hf := (if_neg c8).symm.trans hf
        refine U_iload (n := 74) 0 C dX3_cocircuit_72 rfl rfl ?_
        refine U_iconst (n := 75) (1 : Int32) C dX3_cocircuit_74 kiconst_1 rfl ?_
        refine U_join1 (fun v10 => U g Γ 7 Q 0 0 99 [(0, .ref p0), (1, .int p1), (2, .int p2), (3, .int v10), (4, .int x4), (5, .int x5)] [] h) hf (fun v10 hf => ?_) (fun v10 hf J12 => ?_)
        · skip
          refine U_iload (n := 101) 4 C dX3_cocircuit_99 rfl rfl ?_
          refine U_iconst (n := 102) (4 : Int32) C dX3_cocircuit_101 kiconst_4 rfl ?_
          refine U_imul (n := 103) C dX3_cocircuit_102 rfl ?_
          refine U_istore (n := 105) (lv2 := [(4, .int (x4 * (4 : Int32))), (0, .ref p0), (1, .int p1), (2, .int p2), (3, .int v10), (5, .int x5)]) C dX3_cocircuit_103 (by decide) rfl rfl ?_
          refine U_iinc (n := 108) (v := (x5 + 1)) (lv2 := [(5, .int (x5 + 1)), (4, .int (x4 * (4 : Int32))), (0, .ref p0), (1, .int p1), (2, .int p2), (3, .int v10)]) 5 C dX3_cocircuit_105 rfl rfl (by decide) rfl rfl ?_
          refine U_goto (n := 0) (tgt := 33) C dX3_cocircuit_108 (by decide) ?_
          exact U_lv [2, 3, 4, 5, 1, 0] rfl (ih hf J0 R0)
        · skip
          refine U_icne (tgt := 86) (n := 78) C dX3_cocircuit_75 (by decide) rfl (fun c9 => ?_) (fun c9 => ?_)
          · replace hf := (if_pos c9).symm.trans hf
            refine U_iload_n (n := 79) 4 C dX3_cocircuit_78 rfl rfl ?_
            refine U_iload (n := 81) 5 C dX3_cocircuit_79 rfl rfl ?_
            refine U_iadd (n := 82) C dX3_cocircuit_81 rfl ?_
            refine U_istore_n (n := 83) (lv2 := [(3, .int (x3 + x4)), (6, .int v7), (0, .ref p0), (1, .int p1), (2, .int p2), (4, .int x4), (5, .int x5)]) C dX3_cocircuit_82 (by decide) rfl rfl ?_
            refine U_goto (n := 0) (tgt := 99) C dX3_cocircuit_83 (by decide) ?_
            have hr := Option.some.inj hf
            subst hr
            exact U_lv [2, 3, 4, 0, 5, 6] rfl J12
          · replace hf := (if_neg c9).symm.trans hf
            refine U_iload (n := 88) 0 C dX3_cocircuit_86 rfl rfl ?_
            refine U_iconst (n := 89) (-1 : Int32) C dX3_cocircuit_88 kiconst_m1 rfl ?_
            refine U_icne (tgt := 99) (n := 92) C dX3_cocircuit_89 (by decide) rfl (fun c14 => ?_) (fun c14 => ?_)
            · replace hf := (if_pos c14).symm.trans hf
              refine U_iload_n (n := 93) 4 C dX3_cocircuit_92 rfl rfl ?_
              refine U_iconst (n := 94) (2 : Int32) C dX3_cocircuit_93 kiconst_2 rfl ?_
              refine U_iload (n := 96) 5 C dX3_cocircuit_94 rfl rfl ?_
              refine U_imul (n := 97) C dX3_cocircuit_96 rfl ?_
              refine U_iadd (n := 98) C dX3_cocircuit_97 rfl ?_
              refine U_istore_n (n := 99) (lv2 := [(3, .int (x3 + ((2 : Int32) * x4))), (6, .int v7), (0, .ref p0), (1, .int p1), (2, .int p2), (4, .int x4), (5, .int x5)]) C dX3_cocircuit_98 (by decide) rfl rfl ?_
              have hr := Option.some.inj hf
              subst hr
              exact U_lv [2, 3, 4, 0, 5, 6] rfl J12
            · replace hf := (if_neg c14).symm.trans hf
              have hr := Option.some.inj hf
              subst hr
              exact U_lv [1, 2, 3, 4, 5, 6] rfl J12
theorem rc_X3_cocircuit {o : Nat} {a1 : Int32} {a2 : Int32} {h : Hp} {z} (hf : f_X3_cocircuit o a1 a2 h = some z) : rc 3 h o = some () := by
  unfold f_X3_cocircuit at hf
  exact (bsome hf).choose_spec.1
set_option maxHeartbeats 2000000 in
set_option maxRecDepth 20000 in
theorem M_X3_cocircuit {g : GT} {o : Nat} {a1 : Int32} {a2 : Int32} {h : Hp} {r : (Nat ⊕ Int32)} (hf : f_X3_cocircuit o a1 a2 h = some r) : CM g yX3_cocircuit cX3_cocircuit 7 (some .int) 9 0 0 [.ref o, .int a1, .int a2] h (rI r) h := by
  refine CM_of rfl (fun _ => Nat.le_of_ble_eq_true rfl) (fun Γ C hn0 => ?_)
  have C : Cx g Γ cX3_cocircuit RX3 "cocircuit" 7 (some .int) 9 (0 + er (rI r)) (0 + 6 * er (rI r)) := C
  generalize hQ : Qe g Γ (rI r) h 0 0 = Q
  show U g Γ 7 Q 0 0 0 [(0, .ref o), (1, .int a1), (2, .int a2)] [] h
  unfold f_X3_cocircuit at hf
  replace hf := (bsome hf).choose_spec.2
  refine U_aload_n (n := 1) 0 C dX3_cocircuit_0 rfl rfl rfl ?_
  refine U_iload_n (n := 2) 1 C dX3_cocircuit_1 rfl rfl ?_
  rcases bsomeT hf with ⟨kv1, ev1, hf⟩ | ⟨v1, ev1, hf⟩
  · skip
    have hr := (Option.some.inj hf)
    subst hr
    subst hQ
    exact xv_RX3_80 kv1 C dX3_cocircuit_2 (av := [.int a1]) rfl (rc_X3_requirePoint ev1) (M_X3_requirePoint ev1) (Nat.le_of_ble_eq_true rfl) (Nat.le_of_ble_eq_true rfl)
  refine cv_RX3_80 (n := 5) C dX3_cocircuit_2 (av := [.int a1]) rfl (rc_X3_requirePoint ev1) (M_X3_requirePoint ev1) (Nat.le_of_ble_eq_true rfl) (Nat.zero_le _) (Nat.zero_le _) (Nat.le_of_ble_eq_true rfl) rfl ?_
  refine U_aload_n (n := 6) 0 C dX3_cocircuit_5 rfl rfl rfl ?_
  refine U_iload_n (n := 7) 2 C dX3_cocircuit_6 rfl rfl ?_
  rcases bsomeT hf with ⟨kv2, ev2, hf⟩ | ⟨v2, ev2, hf⟩
  · skip
    have hr := (Option.some.inj hf)
    subst hr
    subst hQ
    exact xv_RX3_80 kv2 C dX3_cocircuit_7 (av := [.int a2]) rfl (rc_X3_requirePoint ev2) (M_X3_requirePoint ev2) (Nat.le_of_ble_eq_true rfl) (Nat.le_of_ble_eq_true rfl)
  refine cv_RX3_80 (n := 10) C dX3_cocircuit_7 (av := [.int a2]) rfl (rc_X3_requirePoint ev2) (M_X3_requirePoint ev2) (Nat.le_of_ble_eq_true rfl) (Nat.zero_le _) (Nat.zero_le _) (Nat.le_of_ble_eq_true rfl) rfl ?_
  refine U_iload_n (n := 11) 1 C dX3_cocircuit_10 rfl rfl ?_
  refine U_iload_n (n := 12) 2 C dX3_cocircuit_11 rfl rfl ?_
  refine U_icne (tgt := 25) (n := 15) C dX3_cocircuit_12 (by decide) rfl (fun c3 => ?_) (fun c3 => ?_)
  · replace hf := (if_pos c3).symm.trans hf
    have hr := (Option.some.inj hf)
    subst hr
    subst hQ
    exact U_throw 0 C xown_RX3 rfl xfit_0 xcl_0 xin_0 xsr_132 xat_0 xgood_0 dX3_cocircuit_15 dX3_cocircuit_18 dX3_cocircuit_19 dX3_cocircuit_21 dX3_cocircuit_24 (Nat.le_of_ble_eq_true rfl) (Nat.le_refl _) (Nat.le_refl _) rfl rfl
  · replace hf := (if_neg c3).symm.trans hf
    refine U_iconst (n := 26) (0 : Int32) C dX3_cocircuit_25 kiconst_0 rfl ?_
    refine U_istore_n (n := 27) (lv2 := [(3, .int (0 : Int32)), (0, .ref o), (1, .int a1), (2, .int a2)]) C dX3_cocircuit_26 (by decide) rfl rfl ?_
    refine U_iconst (n := 28) (1 : Int32) C dX3_cocircuit_27 kiconst_1 rfl ?_
    refine U_istore (n := 30) (lv2 := [(4, .int (1 : Int32)), (3, .int (0 : Int32)), (0, .ref o), (1, .int a1), (2, .int a2)]) C dX3_cocircuit_28 (by decide) rfl rfl ?_
    refine U_iconst (n := 31) (0 : Int32) C dX3_cocircuit_30 kiconst_0 rfl ?_
    refine U_istore (n := 33) (lv2 := [(5, .int (0 : Int32)), (4, .int (1 : Int32)), (3, .int (0 : Int32)), (0, .ref o), (1, .int a1), (2, .int a2)]) C dX3_cocircuit_31 (by decide) rfl rfl ?_
    refine U_joinR1 (fun v15 => U g Γ 7 Q 0 0 111 [(3, .int v15)] [] h) hf (fun v15 hf => ?_) (fun o18 hf J16 R17 => U_lv [3, 4, 5, 2, 1, 0] rfl (L_X3_cocircuit_33 C hf J16 ?_))
    rotate_left
    · intro r hr
      have hr := (R17 r hr)
      subst hr
      exact ⟨hQ, rfl, rfl⟩
    refine U_iload_n (n := 112) 0 C dX3_cocircuit_111 rfl rfl ?_
    have hr := (Option.some.inj hf)
    subst hr
    subst hQ
    exact U_iret C dX3_cocircuit_112 (Nat.le_refl 0) (Nat.le_refl 0)
def l_X3_borders_8 (p0 : Nat) (p1 : Int32) (p2 : Int32) (h : Hp) : Nat → Int32 → Int32 → Int32 → Option ((Int32 × Int32) ⊕ Int32)
  | 0, _, _, _ => none
  | fuel + 1, x3, x4, x5 =>
    (fR 3 0 h p0).bind fun v1 =>
    (fI 0 0 h v1).bind fun v2 =>
    if v2 ≤ x5 then (
      some (.inl (x3, x4))
    ) else (
      (f_X3_orderedSign p0 p1 p2 x5 h).bind fun v4 =>
      if v4 = (-100 : Int32) then (
        some (.inr ((0 : Int32)))
      ) else (
        (
          if x3 = 0 then (
            if v4 = (1 : Int32) then (
              some ((1 : Int32))
            ) else (
              some ((0 : Int32))
            )
          ) else (
            some ((1 : Int32))
          )
        ).bind fun v7 =>
        (
          if x4 = 0 then (
            if v4 = (-1 : Int32) then (
              some ((1 : Int32))
            ) else (
              some ((0 : Int32))
            )
          ) else (
            some ((1 : Int32))
          )
        ).bind fun v12 =>
        l_X3_borders_8 p0 p1 p2 h fuel v7 v12 (x5 + 1)
      )
    )
def f_X3_borders (o : Nat) (a1 : Int32) (a2 : Int32) (h : Hp) : Option Int32 :=
  (rc 3 h o).bind fun _ =>
  bindR2 (l_X3_borders_8 o a1 a2 h FU (0 : Int32) (0 : Int32) (0 : Int32)) fun v18 v19 =>
  if v18 = v19 then (
    some ((0 : Int32))
  ) else (
    some ((1 : Int32))
  )
set_option maxHeartbeats 2000000 in
set_option maxRecDepth 20000 in
theorem L_X3_borders_8 {g : GT} {Γ : CT} {Q : State → Prop} {mc ms : Nat} (C : Cx g Γ cX3_borders RX3 "borders" 7 (some .boolean) 9 mc ms) {p0 : Nat} {p1 : Int32} {p2 : Int32} {h : Hp} : ∀ {fuel : Nat} {x3 : Int32} {x4 : Int32} {x5 : Int32} {out : ((Int32 × Int32) ⊕ Int32)}, l_X3_borders_8 p0 p1 p2 h fuel x3 x4 x5 = some out → (∀ y3 y4, out = .inl (y3, y4) → U g Γ 7 Q 0 0 79 [(3, .int y3), (4, .int y4)] [] h) → (∀ r, out = .inr r → Qe g Γ (.inr (some (.int r))) h 0 0 = Q) → U g Γ 7 Q 0 0 8 [(0, .ref p0), (1, .int p1), (2, .int p2), (3, .int x3), (4, .int x4), (5, .int x5)] [] h := by
  intro fuel
  induction fuel with
  | zero =>
    intro x3 x4 x5 out hf J0 R0
    simp only [l_X3_borders_8, reduceCtorEq] at hf
  | succ fuel ih =>
    intro x3 x4 x5 out hf J0 R0
    rw [l_X3_borders_8] at hf
    refine U_iload (n := 10) 5 C dX3_borders_8 rfl rfl ?_
    refine U_aload_n (n := 11) 0 C dX3_borders_10 rfl rfl rfl ?_
    refine gf_RX3_10 (n := 14) C dX3_borders_11 hf rfl (fun v1 hf => ?_)
    refine gf_RX3_163 (n := 17) C dX3_borders_14 hf rfl (fun v2 hf => ?_)
    refine U_icge (tgt := 79) (n := 20) C dX3_borders_17 (by decide) rfl (fun c3 => ?_) (fun c3 => ?_)
    · replace hf := (if_pos c3).symm.trans hf
      have hr := Option.some.inj hf
      subst hr
      exact U_lv [3, 4] rfl (J0 _ _ rfl)
    · replace hf := (if_neg c3).symm.trans hf
      refine U_aload_n (n := 21) 0 C dX3_borders_20 rfl rfl rfl ?_
      refine U_iload_n (n := 22) 1 C dX3_borders_21 rfl rfl ?_
      refine U_iload_n (n := 23) 2 C dX3_borders_22 rfl rfl ?_
      refine U_iload (n := 25) 5 C dX3_borders_23 rfl rfl ?_
      obtain ⟨v4, ev4, hf⟩ := bsome hf
      refine cv_RX3_89 (n := 28) C dX3_borders_25 (av := [.int p1, .int p2, .int x5]) rfl (rc_X3_orderedSign ev4) (M_X3_orderedSign ev4) (Nat.le_of_ble_eq_true rfl) (Nat.zero_le _) (Nat.zero_le _) (Nat.le_of_ble_eq_true rfl) rfl ?_
      refine U_istore (n := 30) (lv2 := [(6, .int v4), (0, .ref p0), (1, .int p1), (2, .int p2), (3, .int x3), (4, .int x4), (5, .int x5)]) C dX3_borders_28 (by decide) rfl rfl ?_
      refine U_iload (n := 32) 0 C dX3_borders_30 rfl rfl ?_
      refine U_bipush (n := 34) (-100 : Int32) C dX3_borders_32 kbipush_m100 rfl ?_
      refine U_icne (tgt := 39) (n := 37) C dX3_borders_34 (by decide) rfl (fun c5 => ?_) (fun c5 => ?_)
      · replace hf := (if_pos c5).symm.trans hf
        refine U_iconst (n := 38) (0 : Int32) C dX3_borders_37 kiconst_0 rfl ?_
        have hr := Option.some.inj hf
        subst hr
        have hQ := R0 _ rfl
        subst hQ
        exact U_zret C dX3_borders_38 (Or.inl rfl) (Nat.le_refl 0) (Nat.le_refl 0)
      · replace hf := (if_neg c5).symm.trans hf
        refine U_iload_n (n := 40) 4 C dX3_borders_39 rfl rfl ?_
        refine U_join1 (fun v7 => U g Γ 7 Q 0 0 54 [(0, .ref p0), (1, .int p1), (2, .int p2), (4, .int x4), (5, .int x5), (6, .int v4)] [.int v7] h) hf (fun v7 hf => ?_) (fun v7 hf J9 => ?_)
        · skip
          refine U_istore_n (n := 55) (lv2 := [(3, .int v7), (0, .ref p0), (1, .int p1), (2, .int p2), (4, .int x4), (5, .int x5), (6, .int v4)]) C dX3_borders_54 (by decide) rfl rfl ?_
          refine U_iload (n := 57) 4 C dX3_borders_55 rfl rfl ?_
          refine U_join1 (fun v12 => U g Γ 7 Q 0 0 71 [(0, .ref p0), (1, .int p1), (2, .int p2), (3, .int v7), (5, .int x5)] [.int v12] h) hf (fun v12 hf => ?_) (fun v12 hf J14 => ?_)
          · skip
            refine U_istore (n := 73) (lv2 := [(4, .int v12), (0, .ref p0), (1, .int p1), (2, .int p2), (3, .int v7), (5, .int x5)]) C dX3_borders_71 (by decide) rfl rfl ?_
            refine U_iinc (n := 76) (v := (x5 + 1)) (lv2 := [(5, .int (x5 + 1)), (4, .int v12), (0, .ref p0), (1, .int p1), (2, .int p2), (3, .int v7)]) 5 C dX3_borders_73 rfl rfl (by decide) rfl rfl ?_
            refine U_goto (n := 0) (tgt := 8) C dX3_borders_76 (by decide) ?_
            exact U_lv [2, 3, 4, 5, 1, 0] rfl (ih hf J0 R0)
          · skip
            refine U_ifne (tgt := 66) (n := 60) C dX3_borders_57 (by decide) rfl (fun c11 => ?_) (fun c11 => ?_)
            · replace hf := (if_pos c11).symm.trans hf
              refine U_iload (n := 62) 6 C dX3_borders_60 rfl rfl ?_
              refine U_iconst (n := 63) (-1 : Int32) C dX3_borders_62 kiconst_m1 rfl ?_
              refine U_icne (tgt := 70) (n := 66) C dX3_borders_63 (by decide) rfl (fun c16 => ?_) (fun c16 => ?_)
              · replace hf := (if_pos c16).symm.trans hf
                refine U_iconst (n := 67) (1 : Int32) C dX3_borders_66 kiconst_1 rfl ?_
                refine U_goto (n := 0) (tgt := 71) C dX3_borders_67 (by decide) ?_
                have hr := Option.some.inj hf
                subst hr
                exact U_lv [1, 2, 3, 0, 5] rfl J14
              · replace hf := (if_neg c16).symm.trans hf
                refine U_iconst (n := 71) (0 : Int32) C dX3_borders_70 kiconst_0 rfl ?_
                have hr := Option.some.inj hf
                subst hr
                exact U_lv [1, 2, 3, 0, 5] rfl J14
            · replace hf := (if_neg c11).symm.trans hf
              refine U_iconst (n := 67) (1 : Int32) C dX3_borders_66 kiconst_1 rfl ?_
              refine U_goto (n := 0) (tgt := 71) C dX3_borders_67 (by decide) ?_
              have hr := Option.some.inj hf
              subst hr
              exact U_lv [1, 2, 3, 0, 5] rfl J14
        · skip
          refine U_ifne (tgt := 49) (n := 43) C dX3_borders_40 (by decide) rfl (fun c6 => ?_) (fun c6 => ?_)
          · replace hf := (if_pos c6).symm.trans hf
            refine U_iload (n := 45) 0 C dX3_borders_43 rfl rfl ?_
            refine U_iconst (n := 46) (1 : Int32) C dX3_borders_45 kiconst_1 rfl ?_
            refine U_icne (tgt := 53) (n := 49) C dX3_borders_46 (by decide) rfl (fun c17 => ?_) (fun c17 => ?_)
            · replace hf := (if_pos c17).symm.trans hf
              refine U_iconst (n := 50) (1 : Int32) C dX3_borders_49 kiconst_1 rfl ?_
              refine U_goto (n := 0) (tgt := 54) C dX3_borders_50 (by decide) ?_
              have hr := Option.some.inj hf
              subst hr
              exact U_lv [1, 2, 3, 5, 6, 0] rfl J9
            · replace hf := (if_neg c17).symm.trans hf
              refine U_iconst (n := 54) (0 : Int32) C dX3_borders_53 kiconst_0 rfl ?_
              have hr := Option.some.inj hf
              subst hr
              exact U_lv [1, 2, 3, 5, 6, 0] rfl J9
          · replace hf := (if_neg c6).symm.trans hf
            refine U_iconst (n := 50) (1 : Int32) C dX3_borders_49 kiconst_1 rfl ?_
            refine U_goto (n := 0) (tgt := 54) C dX3_borders_50 (by decide) ?_
            have hr := Option.some.inj hf
            subst hr
            exact U_lv [1, 2, 3, 5, 6, 0] rfl J9
theorem rc_X3_borders {o : Nat} {a1 : Int32} {a2 : Int32} {h : Hp} {z} (hf : f_X3_borders o a1 a2 h = some z) : rc 3 h o = some () := by
  unfold f_X3_borders at hf
  exact (bsome hf).choose_spec.1
set_option maxHeartbeats 2000000 in
set_option maxRecDepth 20000 in
theorem M_X3_borders {g : GT} {o : Nat} {a1 : Int32} {a2 : Int32} {h : Hp} {r : Int32} (hf : f_X3_borders o a1 a2 h = some r) : CM g yX3_borders cX3_borders 7 (some .boolean) 9 0 0 [.ref o, .int a1, .int a2] h (.inr (some (.int r))) h := by
  refine CM_of rfl (fun _ => Nat.le_of_ble_eq_true rfl) (fun Γ C hn0 => ?_)
  have C : Cx g Γ cX3_borders RX3 "borders" 7 (some .boolean) 9 0 0 := C
  generalize hQ : Qe g Γ (.inr (some (.int r))) h 0 0 = Q
  show U g Γ 7 Q 0 0 0 [(0, .ref o), (1, .int a1), (2, .int a2)] [] h
  unfold f_X3_borders at hf
  replace hf := (bsome hf).choose_spec.2
  refine U_iconst (n := 1) (0 : Int32) C dX3_borders_0 kiconst_0 rfl ?_
  refine U_istore_n (n := 2) (lv2 := [(3, .int (0 : Int32)), (0, .ref o), (1, .int a1), (2, .int a2)]) C dX3_borders_1 (by decide) rfl rfl ?_
  refine U_iconst (n := 3) (0 : Int32) C dX3_borders_2 kiconst_0 rfl ?_
  refine U_istore (n := 5) (lv2 := [(4, .int (0 : Int32)), (3, .int (0 : Int32)), (0, .ref o), (1, .int a1), (2, .int a2)]) C dX3_borders_3 (by decide) rfl rfl ?_
  refine U_iconst (n := 6) (0 : Int32) C dX3_borders_5 kiconst_0 rfl ?_
  refine U_istore (n := 8) (lv2 := [(5, .int (0 : Int32)), (4, .int (0 : Int32)), (3, .int (0 : Int32)), (0, .ref o), (1, .int a1), (2, .int a2)]) C dX3_borders_6 (by decide) rfl rfl ?_
  refine U_joinR2 (fun v18 v19 => U g Γ 7 Q 0 0 79 [(3, .int v18), (4, .int v19)] [] h) hf (fun v18 v19 hf => ?_) (fun o22 hf J20 R21 => U_lv [3, 4, 5, 2, 1, 0] rfl (L_X3_borders_8 C hf J20 ?_))
  rotate_left
  · intro r hr
    have hr := (R21 r hr)
    subst hr
    exact hQ
  refine U_iload_n (n := 80) 0 C dX3_borders_79 rfl rfl ?_
  refine U_iload (n := 82) 1 C dX3_borders_80 rfl rfl ?_
  refine U_iceq (tgt := 89) (n := 85) C dX3_borders_82 (by decide) rfl (fun c23 => ?_) (fun c23 => ?_)
  · replace hf := (if_pos c23).symm.trans hf
    refine U_iconst (n := 90) (0 : Int32) C dX3_borders_89 kiconst_0 rfl ?_
    have hr := (Option.some.inj hf)
    subst hr
    subst hQ
    exact U_zret C dX3_borders_90 (Or.inl rfl) (Nat.le_refl 0) (Nat.le_refl 0)
  · replace hf := (if_neg c23).symm.trans hf
    refine U_iconst (n := 86) (1 : Int32) C dX3_borders_85 kiconst_1 rfl ?_
    refine U_goto (n := 0) (tgt := 90) C dX3_borders_86 (by decide) ?_
    have hr := (Option.some.inj hf)
    subst hr
    subst hQ
    exact U_zret C dX3_borders_90 (Or.inr rfl) (Nat.le_refl 0) (Nat.le_refl 0)
def l_X3_isExtreme_7 (p0 : Nat) (p1 : Int32) (h : Hp) : Nat → Int32 → Option (Unit ⊕ (Nat ⊕ Int32))
  | 0, _ => none
  | fuel + 1, x2 =>
    (fR 3 0 h p0).bind fun v2 =>
    (fI 0 0 h v2).bind fun v3 =>
    if v3 ≤ x2 then (
      some (.inl ())
    ) else (
      bindQ0 (
        if x2 = p1 then (
          some (Sum.inl ())
        ) else (
          (f_X3_borders p0 p1 x2 h).bind fun v9 =>
          if v9 = 0 then (
            some (Sum.inl ())
          ) else (
            some (.inr (.inr (1 : Int32)))
          )
        )
      ) fun _ =>
      l_X3_isExtreme_7 p0 p1 h fuel (x2 + 1)
    )
def f_X3_isExtreme (o : Nat) (a1 : Int32) (h : Hp) : Option (Nat ⊕ Int32) :=
  (rc 3 h o).bind fun _ =>
  bindT (f_X3_requirePoint o a1 h) (fun kv1 => some (.inl kv1)) fun v1 =>
  bindR0 (l_X3_isExtreme_7 o a1 h FU (0 : Int32)) fun _ =>
  some (.inr (0 : Int32))
set_option maxHeartbeats 2000000 in
set_option maxRecDepth 20000 in
theorem L_X3_isExtreme_7 {g : GT} {Γ : CT} {Q : State → Prop} {mc ms : Nat} (C : Cx g Γ cX3_isExtreme RX3 "isExtreme" 3 (some .boolean) 10 mc ms) {p0 : Nat} {p1 : Int32} {h : Hp} : ∀ {fuel : Nat} {x2 : Int32} {out : (Unit ⊕ (Nat ⊕ Int32))}, l_X3_isExtreme_7 p0 p1 h fuel x2 = some out → (out = .inl () → U g Γ 3 Q 0 0 40 [] [] h) → (∀ r, out = .inr r → (Qe g Γ (rI r) h 0 0 = Q ∧ mc = 0 + er (rI r) ∧ ms = 0 + 6 * er (rI r))) → U g Γ 3 Q 0 0 7 [(0, .ref p0), (1, .int p1), (2, .int x2)] [] h := by
  intro fuel
  induction fuel with
  | zero =>
    intro x2 out hf J0 R0
    simp only [l_X3_isExtreme_7, reduceCtorEq] at hf
  | succ fuel ih =>
    intro x2 out hf J0 R0
    rw [l_X3_isExtreme_7] at hf
    refine U_iload_n (n := 8) 2 C dX3_isExtreme_7 rfl rfl ?_
    refine U_aload_n (n := 9) 0 C dX3_isExtreme_8 rfl rfl rfl ?_
    refine gf_RX3_10 (n := 12) C dX3_isExtreme_9 hf rfl (fun v2 hf => ?_)
    refine gf_RX3_163 (n := 15) C dX3_isExtreme_12 hf rfl (fun v3 hf => ?_)
    refine U_icge (tgt := 40) (n := 18) C dX3_isExtreme_15 (by decide) rfl (fun c4 => ?_) (fun c4 => ?_)
    · replace hf := (if_pos c4).symm.trans hf
      have hr := Option.some.inj hf
      subst hr
      exact U_lv [] rfl (J0 rfl)
    · replace hf := (if_neg c4).symm.trans hf
      refine U_iload_n (n := 19) 2 C dX3_isExtreme_18 rfl rfl ?_
      refine U_iload_n (n := 20) 1 C dX3_isExtreme_19 rfl rfl ?_
      refine U_joinQ0 (U g Γ 3 Q 0 0 34 [(0, .ref p0), (1, .int p1), (2, .int x2)] [] h) hf (fun hf => ?_) (fun o6 hf J7 R8 => ?_)
      · skip
        refine U_iinc (n := 37) (v := (x2 + 1)) (lv2 := [(2, .int (x2 + 1)), (0, .ref p0), (1, .int p1)]) 2 C dX3_isExtreme_34 rfl rfl (by decide) rfl rfl ?_
        refine U_goto (n := 0) (tgt := 7) C dX3_isExtreme_37 (by decide) ?_
        exact U_lv [1, 2, 0] rfl (ih hf J0 R0)
      · skip
        refine U_iceq (tgt := 34) (n := 23) C dX3_isExtreme_20 (by decide) rfl (fun c5 => ?_) (fun c5 => ?_)
        · replace hf := (if_pos c5).symm.trans hf
          have hr := Option.some.inj hf
          subst hr
          exact U_lv [0, 1, 2] rfl (J7 rfl)
        · replace hf := (if_neg c5).symm.trans hf
          refine U_aload_n (n := 24) 0 C dX3_isExtreme_23 rfl rfl rfl ?_
          refine U_iload_n (n := 25) 1 C dX3_isExtreme_24 rfl rfl ?_
          refine U_iload_n (n := 26) 2 C dX3_isExtreme_25 rfl rfl ?_
          obtain ⟨v9, ev9, hf⟩ := bsome hf
          refine cv_RX3_203 (n := 29) C dX3_isExtreme_26 (av := [.int p1, .int x2]) rfl (rc_X3_borders ev9) (M_X3_borders ev9) (Nat.le_of_ble_eq_true rfl) (Nat.zero_le _) (Nat.zero_le _) (Nat.le_of_ble_eq_true rfl) rfl ?_
          refine U_ifeq (tgt := 34) (n := 32) C dX3_isExtreme_29 (by decide) rfl (fun c10 => ?_) (fun c10 => ?_)
          · replace hf := (if_pos c10).symm.trans hf
            have hr := Option.some.inj hf
            subst hr
            exact U_lv [0, 1, 2] rfl (J7 rfl)
          · replace hf := (if_neg c10).symm.trans hf
            refine U_iconst (n := 33) (1 : Int32) C dX3_isExtreme_32 kiconst_1 rfl ?_
            have hr := Option.some.inj hf
            subst hr
            have hQ := R0 _ (R8 _ rfl)
            obtain ⟨hQ, hq1, hq2⟩ := hQ
            subst hq1; subst hq2
            subst hQ
            exact U_zret C dX3_isExtreme_33 (Or.inr rfl) (Nat.le_refl 0) (Nat.le_refl 0)
theorem rc_X3_isExtreme {o : Nat} {a1 : Int32} {h : Hp} {z} (hf : f_X3_isExtreme o a1 h = some z) : rc 3 h o = some () := by
  unfold f_X3_isExtreme at hf
  exact (bsome hf).choose_spec.1
set_option maxHeartbeats 2000000 in
set_option maxRecDepth 20000 in
theorem M_X3_isExtreme {g : GT} {o : Nat} {a1 : Int32} {h : Hp} {r : (Nat ⊕ Int32)} (hf : f_X3_isExtreme o a1 h = some r) : CM g yX3_isExtreme cX3_isExtreme 3 (some .boolean) 10 0 0 [.ref o, .int a1] h (rI r) h := by
  refine CM_of rfl (fun _ => Nat.le_of_ble_eq_true rfl) (fun Γ C hn0 => ?_)
  have C : Cx g Γ cX3_isExtreme RX3 "isExtreme" 3 (some .boolean) 10 (0 + er (rI r)) (0 + 6 * er (rI r)) := C
  generalize hQ : Qe g Γ (rI r) h 0 0 = Q
  show U g Γ 3 Q 0 0 0 [(0, .ref o), (1, .int a1)] [] h
  unfold f_X3_isExtreme at hf
  replace hf := (bsome hf).choose_spec.2
  refine U_aload_n (n := 1) 0 C dX3_isExtreme_0 rfl rfl rfl ?_
  refine U_iload_n (n := 2) 1 C dX3_isExtreme_1 rfl rfl ?_
  rcases bsomeT hf with ⟨kv1, ev1, hf⟩ | ⟨v1, ev1, hf⟩
  · skip
    have hr := (Option.some.inj hf)
    subst hr
    subst hQ
    exact xv_RX3_80 kv1 C dX3_isExtreme_2 (av := [.int a1]) rfl (rc_X3_requirePoint ev1) (M_X3_requirePoint ev1) (Nat.le_of_ble_eq_true rfl) (Nat.le_of_ble_eq_true rfl)
  refine cv_RX3_80 (n := 5) C dX3_isExtreme_2 (av := [.int a1]) rfl (rc_X3_requirePoint ev1) (M_X3_requirePoint ev1) (Nat.le_of_ble_eq_true rfl) (Nat.zero_le _) (Nat.zero_le _) (Nat.le_of_ble_eq_true rfl) rfl ?_
  refine U_iconst (n := 6) (0 : Int32) C dX3_isExtreme_5 kiconst_0 rfl ?_
  refine U_istore_n (n := 7) (lv2 := [(2, .int (0 : Int32)), (0, .ref o), (1, .int a1)]) C dX3_isExtreme_6 (by decide) rfl rfl ?_
  refine U_joinR0 (U g Γ 3 Q 0 0 40 [] [] h) hf (fun hf => ?_) (fun o13 hf J11 R12 => U_lv [1, 2, 0] rfl (L_X3_isExtreme_7 C hf J11 ?_))
  rotate_left
  · intro r hr
    have hr := (R12 r hr)
    subst hr
    exact ⟨hQ, rfl, rfl⟩
  refine U_iconst (n := 41) (0 : Int32) C dX3_isExtreme_40 kiconst_0 rfl ?_
  have hr := (Option.some.inj hf)
  subst hr
  subst hQ
  exact U_zret C dX3_isExtreme_41 (Or.inl rfl) (Nat.le_refl 0) (Nat.le_refl 0)
def l_X3_lineMask_5 (p0 : Nat) (p1 : Int32) (p2 : Int32) (h : Hp) : Nat → Int32 → Int32 → Option Int32
  | 0, _, _ => none
  | fuel + 1, x3, x4 =>
    (fR 3 0 h p0).bind fun v1 =>
    (fI 0 0 h v1).bind fun v2 =>
    if v2 ≤ x4 then (
      some x3
    ) else (
      (f_X3_orderedSign p0 p1 p2 x4 h).bind fun v4 =>
      (
        if v4 = 0 then (
          some ((x3 ||| ((1 : Int32) <<< (x4 &&& 31))))
        ) else (
          some x3
        )
      ).bind fun v6 =>
      l_X3_lineMask_5 p0 p1 p2 h fuel v6 (x4 + 1)
    )
def f_X3_lineMask (o : Nat) (a1 : Int32) (a2 : Int32) (h : Hp) : Option Int32 :=
  (rc 3 h o).bind fun _ =>
  (l_X3_lineMask_5 o a1 a2 h FU (0 : Int32) (0 : Int32)).bind fun v10 =>
  some (v10)
set_option maxHeartbeats 2000000 in
set_option maxRecDepth 20000 in
theorem L_X3_lineMask_5 {g : GT} {Γ : CT} {Q : State → Prop} {mc ms : Nat} (C : Cx g Γ cX3_lineMask RX3 "lineMask" 5 (some .int) 9 mc ms) {p0 : Nat} {p1 : Int32} {p2 : Int32} {h : Hp} : ∀ {fuel : Nat} {x3 : Int32} {x4 : Int32} {y3 : Int32}, l_X3_lineMask_5 p0 p1 p2 h fuel x3 x4 = some y3 → U g Γ 5 Q 0 0 41 [(3, .int y3)] [] h → U g Γ 5 Q 0 0 5 [(0, .ref p0), (1, .int p1), (2, .int p2), (3, .int x3), (4, .int x4)] [] h := by
  intro fuel
  induction fuel with
  | zero =>
    intro x3 x4 y3 hf J0
    simp only [l_X3_lineMask_5, reduceCtorEq] at hf
  | succ fuel ih =>
    intro x3 x4 y3 hf J0
    rw [l_X3_lineMask_5] at hf
    refine U_iload (n := 7) 4 C dX3_lineMask_5 rfl rfl ?_
    refine U_aload_n (n := 8) 0 C dX3_lineMask_7 rfl rfl rfl ?_
    refine gf_RX3_10 (n := 11) C dX3_lineMask_8 hf rfl (fun v1 hf => ?_)
    refine gf_RX3_163 (n := 14) C dX3_lineMask_11 hf rfl (fun v2 hf => ?_)
    refine U_icge (tgt := 41) (n := 17) C dX3_lineMask_14 (by decide) rfl (fun c3 => ?_) (fun c3 => ?_)
    · replace hf := (if_pos c3).symm.trans hf
      have hr := Option.some.inj hf
      subst hr
      exact U_lv [3] rfl J0
    · replace hf := (if_neg c3).symm.trans hf
      refine U_aload_n (n := 18) 0 C dX3_lineMask_17 rfl rfl rfl ?_
      refine U_iload_n (n := 19) 1 C dX3_lineMask_18 rfl rfl ?_
      refine U_iload_n (n := 20) 2 C dX3_lineMask_19 rfl rfl ?_
      refine U_iload (n := 22) 4 C dX3_lineMask_20 rfl rfl ?_
      obtain ⟨v4, ev4, hf⟩ := bsome hf
      refine cv_RX3_89 (n := 25) C dX3_lineMask_22 (av := [.int p1, .int p2, .int x4]) rfl (rc_X3_orderedSign ev4) (M_X3_orderedSign ev4) (Nat.le_of_ble_eq_true rfl) (Nat.zero_le _) (Nat.zero_le _) (Nat.le_of_ble_eq_true rfl) rfl ?_
      refine U_join1 (fun v6 => U g Γ 5 Q 0 0 35 [(0, .ref p0), (1, .int p1), (2, .int p2), (3, .int v6), (4, .int x4)] [] h) hf (fun v6 hf => ?_) (fun v6 hf J8 => ?_)
      · skip
        refine U_iinc (n := 38) (v := (x4 + 1)) (lv2 := [(4, .int (x4 + 1)), (0, .ref p0), (1, .int p1), (2, .int p2), (3, .int v6)]) 4 C dX3_lineMask_35 rfl rfl (by decide) rfl rfl ?_
        refine U_goto (n := 0) (tgt := 5) C dX3_lineMask_38 (by decide) ?_
        exact U_lv [1, 2, 3, 4, 0] rfl (ih hf J0)
      · skip
        refine U_ifne (tgt := 35) (n := 28) C dX3_lineMask_25 (by decide) rfl (fun c5 => ?_) (fun c5 => ?_)
        · replace hf := (if_pos c5).symm.trans hf
          refine U_iload_n (n := 29) 3 C dX3_lineMask_28 rfl rfl ?_
          refine U_iconst (n := 30) (1 : Int32) C dX3_lineMask_29 kiconst_1 rfl ?_
          refine U_iload (n := 32) 4 C dX3_lineMask_30 rfl rfl ?_
          refine U_ishl (n := 33) C dX3_lineMask_32 rfl ?_
          refine U_ior (n := 34) C dX3_lineMask_33 rfl ?_
          refine U_istore_n (n := 35) (lv2 := [(3, .int (x3 ||| ((1 : Int32) <<< (x4 &&& 31)))), (0, .ref p0), (1, .int p1), (2, .int p2), (4, .int x4)]) C dX3_lineMask_34 (by decide) rfl rfl ?_
          have hr := Option.some.inj hf
          subst hr
          exact U_lv [1, 2, 3, 0, 4] rfl J8
        · replace hf := (if_neg c5).symm.trans hf
          have hr := Option.some.inj hf
          subst hr
          exact U_lv [0, 1, 2, 3, 4] rfl J8
theorem rc_X3_lineMask {o : Nat} {a1 : Int32} {a2 : Int32} {h : Hp} {z} (hf : f_X3_lineMask o a1 a2 h = some z) : rc 3 h o = some () := by
  unfold f_X3_lineMask at hf
  exact (bsome hf).choose_spec.1
set_option maxHeartbeats 2000000 in
set_option maxRecDepth 20000 in
theorem M_X3_lineMask {g : GT} {o : Nat} {a1 : Int32} {a2 : Int32} {h : Hp} {r : Int32} (hf : f_X3_lineMask o a1 a2 h = some r) : CM g yX3_lineMask cX3_lineMask 5 (some .int) 9 0 0 [.ref o, .int a1, .int a2] h (.inr (some (.int r))) h := by
  refine CM_of rfl (fun _ => Nat.le_of_ble_eq_true rfl) (fun Γ C hn0 => ?_)
  have C : Cx g Γ cX3_lineMask RX3 "lineMask" 5 (some .int) 9 0 0 := C
  generalize hQ : Qe g Γ (.inr (some (.int r))) h 0 0 = Q
  show U g Γ 5 Q 0 0 0 [(0, .ref o), (1, .int a1), (2, .int a2)] [] h
  unfold f_X3_lineMask at hf
  replace hf := (bsome hf).choose_spec.2
  refine U_iconst (n := 1) (0 : Int32) C dX3_lineMask_0 kiconst_0 rfl ?_
  refine U_istore_n (n := 2) (lv2 := [(3, .int (0 : Int32)), (0, .ref o), (1, .int a1), (2, .int a2)]) C dX3_lineMask_1 (by decide) rfl rfl ?_
  refine U_iconst (n := 3) (0 : Int32) C dX3_lineMask_2 kiconst_0 rfl ?_
  refine U_istore (n := 5) (lv2 := [(4, .int (0 : Int32)), (3, .int (0 : Int32)), (0, .ref o), (1, .int a1), (2, .int a2)]) C dX3_lineMask_3 (by decide) rfl rfl ?_
  refine U_join1 (fun v10 => U g Γ 5 Q 0 0 41 [(3, .int v10)] [] h) hf (fun v10 hf => ?_) (fun v10 hf J => U_lv [2, 3, 4, 1, 0] rfl (L_X3_lineMask_5 C hf J))
  refine U_iload_n (n := 42) 0 C dX3_lineMask_41 rfl rfl ?_
  have hr := (Option.some.inj hf)
  subst hr
  subst hQ
  exact U_iret C dX3_lineMask_42 (Nat.le_refl 0) (Nat.le_refl 0)
