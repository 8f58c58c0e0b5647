def l_X3_deriveFrom_42 (p0 : Nat) (p1 : Int32) (p2 : Int32) (p5 : Int32) : Nat → Int32 → Int32 → Int32 → Hp → Option (Int32 × Int32 × Hp)
  | 0, _, _, _, _ => none
  | fuel + 1, x3, x4, x6, h =>
    if (1 : Int32) < x6 then (
      some ((x3, x4, h))
    ) else (
      (fR 3 1 h p0).bind fun v13 =>
      (fR 2 3 h v13).bind fun v14 =>
      (wI h v14 p2 x6).bind fun h15 =>
      (fR 3 0 h15 p0).bind fun v16 =>
      (fR 3 1 h15 p0).bind fun v17 =>
      (fR 2 3 h15 v17).bind fun v18 =>
      (f_X0_verdict v16 p1 v18 h15).bind fun v19 =>
      bind2 (
        if v19 ≤ 0 then (
          some ((x3, x4))
        ) else (
          some (((x3 + 1), x6))
        )
      ) fun v21 v22 =>
      l_X3_deriveFrom_42 p0 p1 p2 p5 fuel v21 v22 (x6 + p5) h15
    )
def f_X3_deriveFrom (o : Nat) (a1 : Int32) (h : Hp) : Option (Int32 × Hp) :=
  (rc 3 h o).bind fun _ =>
  (fR 3 0 h o).bind fun v1 =>
  (fR 3 1 h o).bind fun v2 =>
  (fR 2 3 h v2).bind fun v3 =>
  (f_X0_firstUnknownIn v1 a1 v3 h).bind fun v4 =>
  (fR 3 1 h o).bind fun v5 =>
  (fI 2 1 h v5).bind fun v6 =>
  (
    if v6 = 0 then (
      some ((1 : Int32))
    ) else (
      some ((2 : Int32))
    )
  ).bind fun v8 =>
  bind3 (l_X3_deriveFrom_42 o a1 v4 v8 FU (0 : Int32) (-100 : Int32) (-1 : Int32) h) fun v26 v27 h28 =>
  (fR 3 1 h28 o).bind fun v29 =>
  (fR 2 3 h28 v29).bind fun v30 =>
  (wI h28 v30 v4 (-100 : Int32)).bind fun h31 =>
  (
    if v26 = 0 then (
      (fR 3 1 h31 o).bind fun v46 =>
      (sF 2 2 (.int a1) h31 v46).bind fun h47 =>
      some h47
    ) else (
      some h31
    )
  ).bind fun h33 =>
  if v26 = (1 : Int32) then (
    (fR 3 1 h33 o).bind fun v38 =>
    (fR 3 0 h33 o).bind fun v39 =>
    (fI 0 1 h33 v39).bind fun v40 =>
    (f_X2_countKind v38 (2 : Int32) v40 h33).bind fun v41 =>
    (fR 3 1 h33 o).bind fun v42 =>
    (f_X3_reasonsOf o a1 h33).bind fun v43 =>
    (f_X2_setDerived v42 v4 v27 a1 (v41 + (1 : Int32)) v43 h33).bind fun h45 =>
    some (((1 : Int32), h45))
  ) else (
    some (((0 : Int32), h33))
  )
set_option maxHeartbeats 2000000 in
set_option maxRecDepth 20000 in
theorem L_X3_deriveFrom_42 {g : GT} {Γ : CT} {Q : State → Prop} {mc ms : Nat} (C : Cx g Γ cX3_deriveFrom RX3 "deriveFrom" 7 (some .boolean) 8 mc ms) {p0 : Nat} {p1 : Int32} {p2 : Int32} {p5 : Int32} : ∀ {fuel : Nat} {x3 : Int32} {x4 : Int32} {x6 : Int32} {h : Hp} {y3 : Int32} {y4 : Int32} {hy : Hp}, l_X3_deriveFrom_42 p0 p1 p2 p5 fuel x3 x4 x6 h = some (y3, y4, hy) → U g Γ 7 Q 0 0 94 [(0, .ref p0), (1, .int p1), (2, .int p2), (3, .int y3), (4, .int y4)] [] hy → U g Γ 7 Q 0 0 42 [(0, .ref p0), (1, .int p1), (2, .int p2), (3, .int x3), (4, .int x4), (5, .int p5), (6, .int x6)] [] h := by
  intro fuel
  induction fuel with
  | zero =>
    intro x3 x4 x6 h y3 y4 hy hf J0
    simp only [l_X3_deriveFrom_42, reduceCtorEq] at hf
  | succ fuel ih =>
    intro x3 x4 x6 h y3 y4 hy hf J0
    rw [l_X3_deriveFrom_42] at hf
    refine U_iload (n := 44) 6 C dX3_deriveFrom_42 rfl rfl ?_
    refine U_iconst (n := 45) (1 : Int32) C dX3_deriveFrom_44 kiconst_1 rfl ?_
    refine U_icgt (tgt := 94) (n := 48) C dX3_deriveFrom_45 (by decide) rfl (fun c12 => ?_) (fun c12 => ?_)
    · replace hf := (if_pos c12).symm.trans hf
      obtain ⟨hr0, hs0⟩ := Prod.mk.inj (Option.some.inj hf)
      obtain ⟨hr1, hs1⟩ := Prod.mk.inj hs0
      subst hr0
      subst hr1
      subst hs1
      exact U_lv [0, 1, 2, 3, 4] rfl J0
    · replace hf := (if_neg c12).symm.trans hf
      refine U_aload_n (n := 49) 0 C dX3_deriveFrom_48 rfl rfl rfl ?_
      refine gf_RX3_19 (n := 52) C dX3_deriveFrom_49 hf rfl (fun v13 hf => ?_)
      refine gf_RX3_129 (n := 55) C dX3_deriveFrom_52 hf rfl (fun v14 hf => ?_)
      refine U_iload_n (n := 56) 2 C dX3_deriveFrom_55 rfl rfl ?_
      refine U_iload (n := 58) 6 C dX3_deriveFrom_56 rfl rfl ?_
      refine U_iast (n := 59) C dX3_deriveFrom_58 hf rfl (fun h15 hf => ?_)
      refine U_aload_n (n := 60) 0 C dX3_deriveFrom_59 rfl rfl rfl ?_
      refine gf_RX3_10 (n := 63) C dX3_deriveFrom_60 hf rfl (fun v16 hf => ?_)
      refine U_iload_n (n := 64) 1 C dX3_deriveFrom_63 rfl rfl ?_
      refine U_aload_n (n := 65) 0 C dX3_deriveFrom_64 rfl rfl rfl ?_
      refine gf_RX3_19 (n := 68) C dX3_deriveFrom_65 hf rfl (fun v17 hf => ?_)
      refine gf_RX3_129 (n := 71) C dX3_deriveFrom_68 hf rfl (fun v18 hf => ?_)
      obtain ⟨v19, ev19, hf⟩ := bsome hf
      refine cv_RX3_188 (n := 74) C dX3_deriveFrom_71 (av := [.int p1, .ref v18]) rfl (rc_X0_verdict ev19) (M_X0_verdict ev19) (Nat.le_of_ble_eq_true rfl) (Nat.zero_le _) (Nat.zero_le _) (Nat.le_of_ble_eq_true rfl) rfl ?_
      refine U_join2 (fun v21 v22 => U g Γ 7 Q 0 0 84 [(0, .ref p0), (1, .int p1), (2, .int p2), (3, .int v21), (4, .int v22), (5, .int p5), (6, .int x6)] [] h15) hf (fun v21 v22 hf => ?_) (fun v21 v22 hf J24 => ?_)
      · skip
        refine U_iload (n := 86) 6 C dX3_deriveFrom_84 rfl rfl ?_
        refine U_iload (n := 88) 5 C dX3_deriveFrom_86 rfl rfl ?_
        refine U_iadd (n := 89) C dX3_deriveFrom_88 rfl ?_
        refine U_istore (n := 91) (lv2 := [(6, .int (x6 + p5)), (0, .ref p0), (1, .int p1), (2, .int p2), (3, .int v21), (4, .int v22), (5, .int p5)]) C dX3_deriveFrom_89 (by decide) rfl rfl ?_
        refine U_goto (n := 0) (tgt := 42) C dX3_deriveFrom_91 (by decide) ?_
        exact U_lv [1, 2, 3, 4, 5, 6, 0] rfl (ih hf J0)
      · skip
        refine U_ifle (tgt := 84) (n := 77) C dX3_deriveFrom_74 (by decide) rfl (fun c20 => ?_) (fun c20 => ?_)
        · replace hf := (if_pos c20).symm.trans hf
          obtain ⟨hr0, hs0⟩ := Prod.mk.inj (Option.some.inj hf)
          subst hr0
          subst hs0
          exact U_lv [0, 1, 2, 3, 4, 5, 6] rfl J24
        · replace hf := (if_neg c20).symm.trans hf
          refine U_iinc (n := 80) (v := (x3 + 1)) (lv2 := [(3, .int (x3 + 1)), (0, .ref p0), (1, .int p1), (2, .int p2), (4, .int x4), (5, .int p5), (6, .int x6)]) 3 C dX3_deriveFrom_77 rfl rfl (by decide) rfl rfl ?_
          refine U_iload (n := 82) 6 C dX3_deriveFrom_80 rfl rfl ?_
          refine U_istore (n := 84) (lv2 := [(4, .int x6), (3, .int (x3 + 1)), (0, .ref p0), (1, .int p1), (2, .int p2), (5, .int p5), (6, .int x6)]) C dX3_deriveFrom_82 (by decide) rfl rfl ?_
          obtain ⟨hr0, hs0⟩ := Prod.mk.inj (Option.some.inj hf)
          subst hr0
          subst hs0
          exact U_lv [2, 3, 4, 1, 0, 5, 6] rfl J24
theorem rc_X3_deriveFrom {o : Nat} {a1 : Int32} {h : Hp} {z} (hf : f_X3_deriveFrom o a1 h = some z) : rc 3 h o = some () := by
  unfold f_X3_deriveFrom at hf
  exact (bsome hf).choose_spec.1
set_option maxHeartbeats 2000000 in
set_option maxRecDepth 20000 in
theorem M_X3_deriveFrom {g : GT} {o : Nat} {a1 : Int32} {h : Hp} {r : Int32} {h2 : Hp} (hf : f_X3_deriveFrom o a1 h = some (r, h2)) : CM g yX3_deriveFrom cX3_deriveFrom 7 (some .boolean) 8 0 0 [.ref o, .int a1] h (.inr (some (.int r))) h2 := by
  refine CM_of rfl (fun _ => Nat.le_of_ble_eq_true rfl) (fun Γ C hn0 => ?_)
  have C : Cx g Γ cX3_deriveFrom RX3 "deriveFrom" 7 (some .boolean) 8 0 0 := C
  generalize hQ : Qe g Γ (.inr (some (.int r))) h2 0 0 = Q
  show U g Γ 7 Q 0 0 0 [(0, .ref o), (1, .int a1)] [] h
  unfold f_X3_deriveFrom at hf
  replace hf := (bsome hf).choose_spec.2
  refine U_aload_n (n := 1) 0 C dX3_deriveFrom_0 rfl rfl rfl ?_
  refine gf_RX3_10 (n := 4) C dX3_deriveFrom_1 hf rfl (fun v1 hf => ?_)
  refine U_iload_n (n := 5) 1 C dX3_deriveFrom_4 rfl rfl ?_
  refine U_aload_n (n := 6) 0 C dX3_deriveFrom_5 rfl rfl rfl ?_
  refine gf_RX3_19 (n := 9) C dX3_deriveFrom_6 hf rfl (fun v2 hf => ?_)
  refine gf_RX3_129 (n := 12) C dX3_deriveFrom_9 hf rfl (fun v3 hf => ?_)
  obtain ⟨v4, ev4, hf⟩ := bsome hf
  refine cv_RX3_355 (n := 15) C dX3_deriveFrom_12 (av := [.int a1, .ref v3]) rfl (rc_X0_firstUnknownIn ev4) (M_X0_firstUnknownIn ev4) (Nat.le_of_ble_eq_true rfl) (Nat.zero_le _) (Nat.zero_le _) (Nat.le_of_ble_eq_true rfl) rfl ?_
  refine U_istore_n (n := 16) (lv2 := [(2, .int v4), (0, .ref o), (1, .int a1)]) C dX3_deriveFrom_15 (by decide) rfl rfl ?_
  refine U_iconst (n := 17) (0 : Int32) C dX3_deriveFrom_16 kiconst_0 rfl ?_
  refine U_istore_n (n := 18) (lv2 := [(3, .int (0 : Int32)), (2, .int v4), (0, .ref o), (1, .int a1)]) C dX3_deriveFrom_17 (by decide) rfl rfl ?_
  refine U_bipush (n := 20) (-100 : Int32) C dX3_deriveFrom_18 kbipush_m100 rfl ?_
  refine U_istore (n := 22) (lv2 := [(4, .int (-100 : Int32)), (3, .int (0 : Int32)), (2, .int v4), (0, .ref o), (1, .int a1)]) C dX3_deriveFrom_20 (by decide) rfl rfl ?_
  refine U_aload_n (n := 23) 3 C dX3_deriveFrom_22 rfl rfl rfl ?_
  refine gf_RX3_19 (n := 26) C dX3_deriveFrom_23 hf rfl (fun v5 hf => ?_)
  refine gf_RX3_111 (n := 29) C dX3_deriveFrom_26 hf rfl (fun v6 hf => ?_)
  refine U_join1 (fun v8 => U g Γ 7 Q 0 0 37 [(0, .ref o), (1, .int a1), (2, .int v4), (3, .int (0 : Int32)), (4, .int (-100 : Int32))] [.int v8] h) hf (fun v8 hf => ?_) (fun v8 hf J10 => ?_)
  · skip
    refine U_istore (n := 39) (lv2 := [(5, .int v8), (0, .ref o), (1, .int a1), (2, .int v4), (3, .int (0 : Int32)), (4, .int (-100 : Int32))]) C dX3_deriveFrom_37 (by decide) rfl rfl ?_
    refine U_iconst (n := 40) (-1 : Int32) C dX3_deriveFrom_39 kiconst_m1 rfl ?_
    refine U_istore (n := 42) (lv2 := [(6, .int (-1 : Int32)), (5, .int v8), (0, .ref o), (1, .int a1), (2, .int v4), (3, .int (0 : Int32)), (4, .int (-100 : Int32))]) C dX3_deriveFrom_40 (by decide) rfl rfl ?_
    refine U_join3 (fun v26 v27 h28 => U g Γ 7 Q 0 0 94 [(0, .ref o), (1, .int a1), (2, .int v4), (3, .int v26), (4, .int v27)] [] h28) hf (fun v26 v27 h28 hf => ?_) (fun v26 v27 h28 hf J => U_lv [2, 3, 4, 5, 6, 1, 0] rfl (L_X3_deriveFrom_42 C hf J))
    refine U_aload_n (n := 95) 0 C dX3_deriveFrom_94 rfl rfl rfl ?_
    refine gf_RX3_19 (n := 98) C dX3_deriveFrom_95 hf rfl (fun v29 hf => ?_)
    refine gf_RX3_129 (n := 101) C dX3_deriveFrom_98 hf rfl (fun v30 hf => ?_)
    refine U_iload_n (n := 102) 2 C dX3_deriveFrom_101 rfl rfl ?_
    refine U_bipush (n := 104) (-100 : Int32) C dX3_deriveFrom_102 kbipush_m100 rfl ?_
    refine U_iast (n := 105) C dX3_deriveFrom_104 hf rfl (fun h31 hf => ?_)
    refine U_iload_n (n := 106) 3 C dX3_deriveFrom_105 rfl rfl ?_
    refine U_join1 (fun h33 => U g Γ 7 Q 0 0 117 [(0, .ref o), (1, .int a1), (2, .int v4), (3, .int v26), (4, .int v27)] [] h33) hf (fun h33 hf => ?_) (fun h33 hf J35 => ?_)
    · skip
      refine U_iload_n (n := 118) 3 C dX3_deriveFrom_117 rfl rfl ?_
      refine U_iconst (n := 119) (1 : Int32) C dX3_deriveFrom_118 kiconst_1 rfl ?_
      refine U_iceq (tgt := 124) (n := 122) C dX3_deriveFrom_119 (by decide) rfl (fun c37 => ?_) (fun c37 => ?_)
      · replace hf := (if_pos c37).symm.trans hf
        refine U_aload_n (n := 125) 0 C dX3_deriveFrom_124 rfl rfl rfl ?_
        refine gf_RX3_19 (n := 128) C dX3_deriveFrom_125 hf rfl (fun v38 hf => ?_)
        refine U_iconst (n := 129) (2 : Int32) C dX3_deriveFrom_128 kiconst_2 rfl ?_
        refine U_aload_n (n := 130) 0 C dX3_deriveFrom_129 rfl rfl rfl ?_
        refine gf_RX3_10 (n := 133) C dX3_deriveFrom_130 hf rfl (fun v39 hf => ?_)
        refine gf_RX3_77 (n := 136) C dX3_deriveFrom_133 hf rfl (fun v40 hf => ?_)
        obtain ⟨v41, ev41, hf⟩ := bsome hf
        refine cv_RX3_141 (n := 139) C dX3_deriveFrom_136 (av := [.int (2 : Int32), .int v40]) rfl (rc_X2_countKind ev41) (M_X2_countKind ev41) (Nat.le_of_ble_eq_true rfl) (Nat.zero_le _) (Nat.zero_le _) (Nat.le_of_ble_eq_true rfl) rfl ?_
        refine U_iconst (n := 140) (1 : Int32) C dX3_deriveFrom_139 kiconst_1 rfl ?_
        refine U_iadd (n := 141) C dX3_deriveFrom_140 rfl ?_
        refine U_istore (n := 143) (lv2 := [(6, .int (v41 + (1 : Int32))), (0, .ref o), (1, .int a1), (2, .int v4), (3, .int v26), (4, .int v27)]) C dX3_deriveFrom_141 (by decide) rfl rfl ?_
        refine U_aload_n (n := 144) 1 C dX3_deriveFrom_143 rfl rfl rfl ?_
        refine gf_RX3_19 (n := 147) C dX3_deriveFrom_144 hf rfl (fun v42 hf => ?_)
        refine U_iload_n (n := 148) 3 C dX3_deriveFrom_147 rfl rfl ?_
        refine U_iload (n := 150) 5 C dX3_deriveFrom_148 rfl rfl ?_
        refine U_iload_n (n := 151) 2 C dX3_deriveFrom_150 rfl rfl ?_
        refine U_iload (n := 153) 0 C dX3_deriveFrom_151 rfl rfl ?_
        refine U_aload_n (n := 154) 1 C dX3_deriveFrom_153 rfl rfl rfl ?_
        refine U_iload_n (n := 155) 2 C dX3_deriveFrom_154 rfl rfl ?_
        obtain ⟨v43, ev43, hf⟩ := bsome hf
        refine cv_RX3_191 (n := 158) C dX3_deriveFrom_155 (av := [.int a1]) rfl (rc_X3_reasonsOf ev43) (M_X3_reasonsOf ev43) (Nat.le_of_ble_eq_true rfl) (Nat.zero_le _) (Nat.zero_le _) (Nat.le_of_ble_eq_true rfl) rfl ?_
        obtain ⟨h45, ev44, hf⟩ := bsome hf
        refine cv_RX3_358 (n := 161) C dX3_deriveFrom_158 (av := [.int v4, .int v27, .int a1, .int (v41 + (1 : Int32)), .long v43]) rfl (rc_X2_setDerived ev44) (M_X2_setDerived ev44) (Nat.le_of_ble_eq_true rfl) (Nat.zero_le _) (Nat.zero_le _) (Nat.le_of_ble_eq_true rfl) rfl ?_
        refine U_iconst (n := 162) (1 : Int32) C dX3_deriveFrom_161 kiconst_1 rfl ?_
        obtain ⟨hr1, hr2⟩ := Prod.mk.inj (Option.some.inj hf)
        subst hr1; subst hr2
        subst hQ
        exact U_zret C dX3_deriveFrom_162 (Or.inr rfl) (Nat.le_refl 0) (Nat.le_refl 0)
      · replace hf := (if_neg c37).symm.trans hf
        refine U_iconst (n := 123) (0 : Int32) C dX3_deriveFrom_122 kiconst_0 rfl ?_
        obtain ⟨hr1, hr2⟩ := Prod.mk.inj (Option.some.inj hf)
        subst hr1; subst hr2
        subst hQ
        exact U_zret C dX3_deriveFrom_123 (Or.inl rfl) (Nat.le_refl 0) (Nat.le_refl 0)
    · skip
      refine U_ifne (tgt := 117) (n := 109) C dX3_deriveFrom_106 (by decide) rfl (fun c32 => ?_) (fun c32 => ?_)
      · replace hf := (if_pos c32).symm.trans hf
        refine U_aload_n (n := 110) 0 C dX3_deriveFrom_109 rfl rfl rfl ?_
        refine gf_RX3_19 (n := 113) C dX3_deriveFrom_110 hf rfl (fun v46 hf => ?_)
        refine U_iload_n (n := 114) 1 C dX3_deriveFrom_113 rfl rfl ?_
        refine pf_RX3_175 (n := 117) C dX3_deriveFrom_114 hf rfl (fun h47 hf => ?_)
        have hr := Option.some.inj hf
        subst hr
        exact U_lv [0, 1, 2, 3, 4] rfl J35
      · replace hf := (if_neg c32).symm.trans hf
        have hr := Option.some.inj hf
        subst hr
        exact U_lv [0, 1, 2, 3, 4] rfl J35
  · skip
    refine U_ifeq (tgt := 36) (n := 32) C dX3_deriveFrom_29 (by decide) rfl (fun c7 => ?_) (fun c7 => ?_)
    · replace hf := (if_pos c7).symm.trans hf
      refine U_iconst (n := 37) (1 : Int32) C dX3_deriveFrom_36 kiconst_1 rfl ?_
      have hr := Option.some.inj hf
      subst hr
      exact U_lv [3, 4, 2, 1, 0] rfl J10
    · replace hf := (if_neg c7).symm.trans hf
      refine U_iconst (n := 33) (2 : Int32) C dX3_deriveFrom_32 kiconst_2 rfl ?_
      refine U_goto (n := 0) (tgt := 37) C dX3_deriveFrom_33 (by decide) ?_
      have hr := Option.some.inj hf
      subst hr
      exact U_lv [3, 4, 2, 1, 0] rfl J10
def l_X3_deriveOnce_4 (p0 : Nat) : Nat → Int32 → Int32 → Hp → Option ((Int32 × Hp) ⊕ (Int32 × Hp))
  | 0, _, _, _ => none
  | fuel + 1, x1, x2, h =>
    (fR 3 0 h p0).bind fun v1 =>
    (fI 0 2 h v1).bind fun v2 =>
    if v2 ≤ x2 then (
      some (.inl (x1, h))
    ) else (
      (fR 3 0 h p0).bind fun v4 =>
      (fR 3 1 h p0).bind fun v5 =>
      (fR 2 3 h v5).bind fun v6 =>
      (f_X0_unknownIn v4 x2 v6 h).bind fun v7 =>
      bind2 (
        if v7 = (1 : Int32) then (
          bind2 (f_X3_deriveFrom p0 x2 h) fun v17 h18 =>
          (
            if v17 = 0 then (
              if x1 = 0 then (
                some ((0 : Int32))
              ) else (
                some ((1 : Int32))
              )
            ) else (
              some ((1 : Int32))
            )
          ).bind fun v20 =>
          some ((v20, h18))
        ) else (
          if v7 = 0 then (
            (fR 3 0 h p0).bind fun v26 =>
            (fR 3 1 h p0).bind fun v27 =>
            (fR 2 3 h v27).bind fun v28 =>
            (f_X0_verdict v26 x2 v28 h).bind fun v29 =>
            if 0 ≤ v29 then (
              some ((x1, h))
            ) else (
              (fR 3 1 h p0).bind fun v31 =>
              (sF 2 2 (.int x2) h v31).bind fun h32 =>
              some ((x1, h32))
            )
          ) else (
            some ((x1, h))
          )
        )
      ) fun v9 h10 =>
      (fR 3 1 h10 p0).bind fun v14 =>
      (fI 2 2 h10 v14).bind fun v15 =>
      if v15 = (-100 : Int32) then (
        l_X3_deriveOnce_4 p0 fuel v9 (x2 + 1) h10
      ) else (
        some (.inr (((0 : Int32), h10)))
      )
    )
def f_X3_deriveOnce (o : Nat) (h : Hp) : Option (Int32 × Hp) :=
  (rc 3 h o).bind fun _ =>
  bindR2 (l_X3_deriveOnce_4 o FU (0 : Int32) (0 : Int32) h) fun v33 h34 =>
  (gB v33).bind fun _ =>
  some ((v33, h34))
set_option maxHeartbeats 2000000 in
set_option maxRecDepth 20000 in
theorem L_X3_deriveOnce_4 {g : GT} {Γ : CT} {Q : State → Prop} {mc ms : Nat} (C : Cx g Γ cX3_deriveOnce RX3 "deriveOnce" 4 (some .boolean) 9 mc ms) {p0 : Nat} : ∀ {fuel : Nat} {x1 : Int32} {x2 : Int32} {h : Hp} {out : ((Int32 × Hp) ⊕ (Int32 × Hp))}, l_X3_deriveOnce_4 p0 fuel x1 x2 h = some out → (∀ y1 hy, out = .inl (y1, hy) → U g Γ 4 Q 0 0 107 [(1, .int y1)] [] hy) → (∀ r, out = .inr r → Qe g Γ (.inr (some (.int r.1))) r.2 0 0 = Q) → U g Γ 4 Q 0 0 4 [(0, .ref p0), (1, .int x1), (2, .int x2)] [] h := by
  intro fuel
  induction fuel with
  | zero =>
    intro x1 x2 h out hf J0 R0
    simp only [l_X3_deriveOnce_4, reduceCtorEq] at hf
  | succ fuel ih =>
    intro x1 x2 h out hf J0 R0
    rw [l_X3_deriveOnce_4] at hf
    refine U_iload_n (n := 5) 2 C dX3_deriveOnce_4 rfl rfl ?_
    refine U_aload_n (n := 6) 0 C dX3_deriveOnce_5 rfl rfl rfl ?_
    refine gf_RX3_10 (n := 9) C dX3_deriveOnce_6 hf rfl (fun v1 hf => ?_)
    refine gf_RX3_166 (n := 12) C dX3_deriveOnce_9 hf rfl (fun v2 hf => ?_)
    refine U_icge (tgt := 107) (n := 15) C dX3_deriveOnce_12 (by decide) rfl (fun c3 => ?_) (fun c3 => ?_)
    · replace hf := (if_pos c3).symm.trans hf
      have hr := Option.some.inj hf
      subst hr
      exact U_lv [1] rfl (J0 _ _ rfl)
    · replace hf := (if_neg c3).symm.trans hf
      refine U_aload_n (n := 16) 0 C dX3_deriveOnce_15 rfl rfl rfl ?_
      refine gf_RX3_10 (n := 19) C dX3_deriveOnce_16 hf rfl (fun v4 hf => ?_)
      refine U_iload_n (n := 20) 2 C dX3_deriveOnce_19 rfl rfl ?_
      refine U_aload_n (n := 21) 0 C dX3_deriveOnce_20 rfl rfl rfl ?_
      refine gf_RX3_19 (n := 24) C dX3_deriveOnce_21 hf rfl (fun v5 hf => ?_)
      refine gf_RX3_129 (n := 27) C dX3_deriveOnce_24 hf rfl (fun v6 hf => ?_)
      obtain ⟨v7, ev7, hf⟩ := bsome hf
      refine cv_RX3_184 (n := 30) C dX3_deriveOnce_27 (av := [.int x2, .ref v6]) rfl (rc_X0_unknownIn ev7) (M_X0_unknownIn ev7) (Nat.le_of_ble_eq_true rfl) (Nat.zero_le _) (Nat.zero_le _) (Nat.le_of_ble_eq_true rfl) rfl ?_
      refine U_istore_n (n := 31) (lv2 := [(3, .int v7), (0, .ref p0), (1, .int x1), (2, .int x2)]) C dX3_deriveOnce_30 (by decide) rfl rfl ?_
      refine U_iload_n (n := 32) 0 C dX3_deriveOnce_31 rfl rfl ?_
      refine U_iconst (n := 33) (1 : Int32) C dX3_deriveOnce_32 kiconst_1 rfl ?_
      refine U_join2 (fun v9 h10 => U g Γ 4 Q 0 0 87 [(0, .ref p0), (1, .int v9), (2, .int x2)] [] h10) hf (fun v9 h10 hf => ?_) (fun v9 h10 hf J12 => ?_)
      · skip
        refine U_aload_n (n := 88) 0 C dX3_deriveOnce_87 rfl rfl rfl ?_
        refine gf_RX3_19 (n := 91) C dX3_deriveOnce_88 hf rfl (fun v14 hf => ?_)
        refine gf_RX3_175 (n := 94) C dX3_deriveOnce_91 hf rfl (fun v15 hf => ?_)
        refine U_bipush (n := 96) (-100 : Int32) C dX3_deriveOnce_94 kbipush_m100 rfl ?_
        refine U_iceq (tgt := 101) (n := 99) C dX3_deriveOnce_96 (by decide) rfl (fun c16 => ?_) (fun c16 => ?_)
        · replace hf := (if_pos c16).symm.trans hf
          refine U_iinc (n := 104) (v := (x2 + 1)) (lv2 := [(2, .int (x2 + 1)), (0, .ref p0), (1, .int v9)]) 2 C dX3_deriveOnce_101 rfl rfl (by decide) rfl rfl ?_
          refine U_goto (n := 0) (tgt := 4) C dX3_deriveOnce_104 (by decide) ?_
          exact U_lv [1, 2, 0] rfl (ih hf J0 R0)
        · replace hf := (if_neg c16).symm.trans hf
          refine U_iconst (n := 100) (0 : Int32) C dX3_deriveOnce_99 kiconst_0 rfl ?_
          have hr := Option.some.inj hf
          subst hr
          have hQ := R0 _ rfl
          subst hQ
          exact U_zret C dX3_deriveOnce_100 (Or.inl rfl) (Nat.le_refl 0) (Nat.le_refl 0)
      · skip
        refine U_icne (tgt := 57) (n := 36) C dX3_deriveOnce_33 (by decide) rfl (fun c8 => ?_) (fun c8 => ?_)
        · replace hf := (if_pos c8).symm.trans hf
          refine U_aload_n (n := 37) 1 C dX3_deriveOnce_36 rfl rfl rfl ?_
          refine U_iload_n (n := 38) 3 C dX3_deriveOnce_37 rfl rfl ?_
          obtain ⟨v17, h18, ev17, hf⟩ := bsome2 hf
          refine cv_RX3_352 (n := 41) C dX3_deriveOnce_38 (av := [.int x2]) rfl (rc_X3_deriveFrom ev17) (M_X3_deriveFrom ev17) (Nat.le_of_ble_eq_true rfl) (Nat.zero_le _) (Nat.zero_le _) (Nat.le_of_ble_eq_true rfl) rfl ?_
          refine U_join1 (fun v20 => U g Γ 4 Q 0 0 53 [(0, .ref p0), (2, .int x2)] [.int v20] h18) hf (fun v20 hf => ?_) (fun v20 hf J22 => ?_)
          · skip
            refine U_istore_n (n := 54) (lv2 := [(1, .int v20), (0, .ref p0), (2, .int x2)]) C dX3_deriveOnce_53 (by decide) rfl rfl ?_
            refine U_goto (n := 0) (tgt := 87) C dX3_deriveOnce_54 (by decide) ?_
            obtain ⟨hr0, hs0⟩ := Prod.mk.inj (Option.some.inj hf)
            subst hr0
            subst hs0
            exact U_lv [1, 0, 2] rfl J12
          · skip
            refine U_ifne (tgt := 48) (n := 44) C dX3_deriveOnce_41 (by decide) rfl (fun c19 => ?_) (fun c19 => ?_)
            · replace hf := (if_pos c19).symm.trans hf
              refine U_iload_n (n := 45) 2 C dX3_deriveOnce_44 rfl rfl ?_
              refine U_ifeq (tgt := 52) (n := 48) C dX3_deriveOnce_45 (by decide) rfl (fun c24 => ?_) (fun c24 => ?_)
              · replace hf := (if_pos c24).symm.trans hf
                refine U_iconst (n := 53) (0 : Int32) C dX3_deriveOnce_52 kiconst_0 rfl ?_
                have hr := Option.some.inj hf
                subst hr
                exact U_lv [1, 3] rfl J22
              · replace hf := (if_neg c24).symm.trans hf
                refine U_iconst (n := 49) (1 : Int32) C dX3_deriveOnce_48 kiconst_1 rfl ?_
                refine U_goto (n := 0) (tgt := 53) C dX3_deriveOnce_49 (by decide) ?_
                have hr := Option.some.inj hf
                subst hr
                exact U_lv [1, 3] rfl J22
            · replace hf := (if_neg c19).symm.trans hf
              refine U_iconst (n := 49) (1 : Int32) C dX3_deriveOnce_48 kiconst_1 rfl ?_
              refine U_goto (n := 0) (tgt := 53) C dX3_deriveOnce_49 (by decide) ?_
              have hr := Option.some.inj hf
              subst hr
              exact U_lv [1, 3] rfl J22
        · replace hf := (if_neg c8).symm.trans hf
          refine U_iload_n (n := 58) 0 C dX3_deriveOnce_57 rfl rfl ?_
          refine U_ifne (tgt := 87) (n := 61) C dX3_deriveOnce_58 (by decide) rfl (fun c25 => ?_) (fun c25 => ?_)
          · replace hf := (if_pos c25).symm.trans hf
            refine U_aload_n (n := 62) 1 C dX3_deriveOnce_61 rfl rfl rfl ?_
            refine gf_RX3_10 (n := 65) C dX3_deriveOnce_62 hf rfl (fun v26 hf => ?_)
            refine U_iload_n (n := 66) 3 C dX3_deriveOnce_65 rfl rfl ?_
            refine U_aload_n (n := 67) 1 C dX3_deriveOnce_66 rfl rfl rfl ?_
            refine gf_RX3_19 (n := 70) C dX3_deriveOnce_67 hf rfl (fun v27 hf => ?_)
            refine gf_RX3_129 (n := 73) C dX3_deriveOnce_70 hf rfl (fun v28 hf => ?_)
            obtain ⟨v29, ev29, hf⟩ := bsome hf
            refine cv_RX3_188 (n := 76) C dX3_deriveOnce_73 (av := [.int x2, .ref v28]) rfl (rc_X0_verdict ev29) (M_X0_verdict ev29) (Nat.le_of_ble_eq_true rfl) (Nat.zero_le _) (Nat.zero_le _) (Nat.le_of_ble_eq_true rfl) rfl ?_
            refine U_ifge (tgt := 87) (n := 79) C dX3_deriveOnce_76 (by decide) rfl (fun c30 => ?_) (fun c30 => ?_)
            · replace hf := (if_pos c30).symm.trans hf
              obtain ⟨hr0, hs0⟩ := Prod.mk.inj (Option.some.inj hf)
              subst hr0
              subst hs0
              exact U_lv [1, 2, 3] rfl J12
            · replace hf := (if_neg c30).symm.trans hf
              refine U_aload_n (n := 80) 1 C dX3_deriveOnce_79 rfl rfl rfl ?_
              refine gf_RX3_19 (n := 83) C dX3_deriveOnce_80 hf rfl (fun v31 hf => ?_)
              refine U_iload_n (n := 84) 3 C dX3_deriveOnce_83 rfl rfl ?_
              refine pf_RX3_175 (n := 87) C dX3_deriveOnce_84 hf rfl (fun h32 hf => ?_)
              obtain ⟨hr0, hs0⟩ := Prod.mk.inj (Option.some.inj hf)
              subst hr0
              subst hs0
              exact U_lv [1, 2, 3] rfl J12
          · replace hf := (if_neg c25).symm.trans hf
            obtain ⟨hr0, hs0⟩ := Prod.mk.inj (Option.some.inj hf)
            subst hr0
            subst hs0
            exact U_lv [1, 2, 3] rfl J12
theorem rc_X3_deriveOnce {o : Nat} {h : Hp} {z} (hf : f_X3_deriveOnce o h = some z) : rc 3 h o = some () := by
  unfold f_X3_deriveOnce at hf
  exact (bsome hf).choose_spec.1
set_option maxHeartbeats 2000000 in
set_option maxRecDepth 20000 in
theorem M_X3_deriveOnce {g : GT} {o : Nat} {h : Hp} {r : Int32} {h2 : Hp} (hf : f_X3_deriveOnce o h = some (r, h2)) : CM g yX3_deriveOnce cX3_deriveOnce 4 (some .boolean) 9 0 0 [.ref o] h (.inr (some (.int r))) h2 := by
  refine CM_of rfl (fun _ => Nat.le_of_ble_eq_true rfl) (fun Γ C hn0 => ?_)
  have C : Cx g Γ cX3_deriveOnce RX3 "deriveOnce" 4 (some .boolean) 9 0 0 := C
  generalize hQ : Qe g Γ (.inr (some (.int r))) h2 0 0 = Q
  show U g Γ 4 Q 0 0 0 [(0, .ref o)] [] h
  unfold f_X3_deriveOnce at hf
  replace hf := (bsome hf).choose_spec.2
  refine U_iconst (n := 1) (0 : Int32) C dX3_deriveOnce_0 kiconst_0 rfl ?_
  refine U_istore_n (n := 2) (lv2 := [(1, .int (0 : Int32)), (0, .ref o)]) C dX3_deriveOnce_1 (by decide) rfl rfl ?_
  refine U_iconst (n := 3) (0 : Int32) C dX3_deriveOnce_2 kiconst_0 rfl ?_
  refine U_istore_n (n := 4) (lv2 := [(2, .int (0 : Int32)), (1, .int (0 : Int32)), (0, .ref o)]) C dX3_deriveOnce_3 (by decide) rfl rfl ?_
  refine U_joinR2 (fun v33 h34 => U g Γ 4 Q 0 0 107 [(1, .int v33)] [] h34) hf (fun v33 h34 hf => ?_) (fun o37 hf J35 R36 => U_lv [2, 1, 0] rfl (L_X3_deriveOnce_4 C hf J35 ?_))
  rotate_left
  · intro r hr
    have hr2 := (R36 r hr)
    subst hr2
    exact hQ
  refine U_iload_n (n := 108) 0 C dX3_deriveOnce_107 rfl rfl ?_
  obtain ⟨_, hz, hf⟩ := bsome hf
  replace hz := gB_spec hz
  obtain ⟨hr1, hr2⟩ := Prod.mk.inj (Option.some.inj hf)
  subst hr1; subst hr2
  subst hQ
  exact U_zret C dX3_deriveOnce_108 hz (Nat.le_refl 0) (Nat.le_refl 0)
def l_X3_deriveAll_29 (p0 : Nat) : Nat → Int32 → Int32 → Hp → Option Hp
  | 0, _, _, _ => none
  | fuel + 1, x2, x3, h =>
    if x2 = 0 then (
      some h
    ) else (
      if (56 : Int32) < x3 then (
        some h
      ) else (
        bind2 (f_X3_deriveOnce p0 h) fun v9 h10 =>
        l_X3_deriveAll_29 p0 fuel v9 (x3 + 1) h10
      )
    )
def f_X3_deriveAll (o : Nat) (h : Hp) : Option (Int32 × Hp) :=
  (rc 3 h o).bind fun _ =>
  (fR 3 1 h o).bind fun v1 =>
  (fR 3 0 h o).bind fun v2 =>
  (fI 0 1 h v2).bind fun v3 =>
  (f_X2_countKind v1 (2 : Int32) v3 h).bind fun v4 =>
  (fR 3 1 h o).bind fun v5 =>
  (sF 2 2 (.int (-100 : Int32)) h v5).bind fun h6 =>
  (l_X3_deriveAll_29 o FU (1 : Int32) (0 : Int32) h6).bind fun h11 =>
  (fR 3 1 h11 o).bind fun v12 =>
  (fR 3 0 h11 o).bind fun v13 =>
  (fI 0 1 h11 v13).bind fun v14 =>
  (f_X2_countKind v12 (2 : Int32) v14 h11).bind fun v15 =>
  some (((v15 - v4), h11))
set_option maxHeartbeats 2000000 in
set_option maxRecDepth 20000 in
theorem L_X3_deriveAll_29 {g : GT} {Γ : CT} {Q : State → Prop} {mc ms : Nat} (C : Cx g Γ cX3_deriveAll RX3 "deriveAll" 4 (some .int) 10 mc ms) {p0 : Nat} {p1 : Int32} : ∀ {fuel : Nat} {x2 : Int32} {x3 : Int32} {h : Hp} {hy : Hp}, l_X3_deriveAll_29 p0 fuel x2 x3 h = some hy → U g Γ 4 Q 0 0 50 [(0, .ref p0), (1, .int p1)] [] hy → U g Γ 4 Q 0 0 29 [(0, .ref p0), (1, .int p1), (2, .int x2), (3, .int x3)] [] h := by
  intro fuel
  induction fuel with
  | zero =>
    intro x2 x3 h hy hf J0
    simp only [l_X3_deriveAll_29, reduceCtorEq] at hf
  | succ fuel ih =>
    intro x2 x3 h hy hf J0
    rw [l_X3_deriveAll_29] at hf
    refine U_iload_n (n := 30) 2 C dX3_deriveAll_29 rfl rfl ?_
    refine U_ifeq (tgt := 50) (n := 33) C dX3_deriveAll_30 (by decide) rfl (fun c7 => ?_) (fun c7 => ?_)
    · replace hf := (if_pos c7).symm.trans hf
      have hr := Option.some.inj hf
      subst hr
      exact U_lv [0, 1] rfl J0
    · replace hf := (if_neg c7).symm.trans hf
      refine U_iload_n (n := 34) 3 C dX3_deriveAll_33 rfl rfl ?_
      refine U_bipush (n := 36) (56 : Int32) C dX3_deriveAll_34 kbipush_56 rfl ?_
      refine U_icgt (tgt := 50) (n := 39) C dX3_deriveAll_36 (by decide) rfl (fun c8 => ?_) (fun c8 => ?_)
      · replace hf := (if_pos c8).symm.trans hf
        have hr := Option.some.inj hf
        subst hr
        exact U_lv [0, 1] rfl J0
      · replace hf := (if_neg c8).symm.trans hf
        refine U_aload_n (n := 40) 0 C dX3_deriveAll_39 rfl rfl rfl ?_
        obtain ⟨v9, h10, ev9, hf⟩ := bsome2 hf
        refine cv_RX3_348 (n := 43) C dX3_deriveAll_40 (av := []) rfl (rc_X3_deriveOnce ev9) (M_X3_deriveOnce ev9) (Nat.le_of_ble_eq_true rfl) (Nat.zero_le _) (Nat.zero_le _) (Nat.le_of_ble_eq_true rfl) rfl ?_
        refine U_istore_n (n := 44) (lv2 := [(2, .int v9), (0, .ref p0), (1, .int p1), (3, .int x3)]) C dX3_deriveAll_43 (by decide) rfl rfl ?_
        refine U_iinc (n := 47) (v := (x3 + 1)) (lv2 := [(3, .int (x3 + 1)), (2, .int v9), (0, .ref p0), (1, .int p1)]) 3 C dX3_deriveAll_44 rfl rfl (by decide) rfl rfl ?_
        refine U_goto (n := 0) (tgt := 29) C dX3_deriveAll_47 (by decide) ?_
        exact U_lv [2, 3, 1, 0] rfl (ih hf J0)
theorem rc_X3_deriveAll {o : Nat} {h : Hp} {z} (hf : f_X3_deriveAll o h = some z) : rc 3 h o = some () := by
  unfold f_X3_deriveAll at hf
  exact (bsome hf).choose_spec.1
set_option maxHeartbeats 2000000 in
set_option maxRecDepth 20000 in
theorem M_X3_deriveAll {g : GT} {o : Nat} {h : Hp} {r : Int32} {h2 : Hp} (hf : f_X3_deriveAll o h = some (r, h2)) : CM g yX3_deriveAll cX3_deriveAll 4 (some .int) 10 0 0 [.ref o] h (.inr (some (.int r))) h2 := by
  refine CM_of rfl (fun _ => Nat.le_of_ble_eq_true rfl) (fun Γ C hn0 => ?_)
  have C : Cx g Γ cX3_deriveAll RX3 "deriveAll" 4 (some .int) 10 0 0 := C
  generalize hQ : Qe g Γ (.inr (some (.int r))) h2 0 0 = Q
  show U g Γ 4 Q 0 0 0 [(0, .ref o)] [] h
  unfold f_X3_deriveAll at hf
  replace hf := (bsome hf).choose_spec.2
  refine U_aload_n (n := 1) 0 C dX3_deriveAll_0 rfl rfl rfl ?_
  refine gf_RX3_19 (n := 4) C dX3_deriveAll_1 hf rfl (fun v1 hf => ?_)
  refine U_iconst (n := 5) (2 : Int32) C dX3_deriveAll_4 kiconst_2 rfl ?_
  refine U_aload_n (n := 6) 0 C dX3_deriveAll_5 rfl rfl rfl ?_
  refine gf_RX3_10 (n := 9) C dX3_deriveAll_6 hf rfl (fun v2 hf => ?_)
  refine gf_RX3_77 (n := 12) C dX3_deriveAll_9 hf rfl (fun v3 hf => ?_)
  obtain ⟨v4, ev4, hf⟩ := bsome hf
  refine cv_RX3_141 (n := 15) C dX3_deriveAll_12 (av := [.int (2 : Int32), .int v3]) rfl (rc_X2_countKind ev4) (M_X2_countKind ev4) (Nat.le_of_ble_eq_true rfl) (Nat.zero_le _) (Nat.zero_le _) (Nat.le_of_ble_eq_true rfl) rfl ?_
  refine U_istore_n (n := 16) (lv2 := [(1, .int v4), (0, .ref o)]) C dX3_deriveAll_15 (by decide) rfl rfl ?_
  refine U_aload_n (n := 17) 1 C dX3_deriveAll_16 rfl rfl rfl ?_
  refine gf_RX3_19 (n := 20) C dX3_deriveAll_17 hf rfl (fun v5 hf => ?_)
  refine U_bipush (n := 22) (-100 : Int32) C dX3_deriveAll_20 kbipush_m100 rfl ?_
  refine pf_RX3_175 (n := 25) C dX3_deriveAll_22 hf rfl (fun h6 hf => ?_)
  refine U_iconst (n := 26) (1 : Int32) C dX3_deriveAll_25 kiconst_1 rfl ?_
  refine U_istore_n (n := 27) (lv2 := [(2, .int (1 : Int32)), (1, .int v4), (0, .ref o)]) C dX3_deriveAll_26 (by decide) rfl rfl ?_
  refine U_iconst (n := 28) (0 : Int32) C dX3_deriveAll_27 kiconst_0 rfl ?_
  refine U_istore_n (n := 29) (lv2 := [(3, .int (0 : Int32)), (2, .int (1 : Int32)), (1, .int v4), (0, .ref o)]) C dX3_deriveAll_28 (by decide) rfl rfl ?_
  refine U_join1 (fun h11 => U g Γ 4 Q 0 0 50 [(0, .ref o), (1, .int v4)] [] h11) hf (fun h11 hf => ?_) (fun h11 hf J => U_lv [3, 2, 1, 0] rfl (L_X3_deriveAll_29 C hf J))
  refine U_aload_n (n := 51) 0 C dX3_deriveAll_50 rfl rfl rfl ?_
  refine gf_RX3_19 (n := 54) C dX3_deriveAll_51 hf rfl (fun v12 hf => ?_)
  refine U_iconst (n := 55) (2 : Int32) C dX3_deriveAll_54 kiconst_2 rfl ?_
  refine U_aload_n (n := 56) 0 C dX3_deriveAll_55 rfl rfl rfl ?_
  refine gf_RX3_10 (n := 59) C dX3_deriveAll_56 hf rfl (fun v13 hf => ?_)
  refine gf_RX3_77 (n := 62) C dX3_deriveAll_59 hf rfl (fun v14 hf => ?_)
  obtain ⟨v15, ev15, hf⟩ := bsome hf
  refine cv_RX3_141 (n := 65) C dX3_deriveAll_62 (av := [.int (2 : Int32), .int v14]) rfl (rc_X2_countKind ev15) (M_X2_countKind ev15) (Nat.le_of_ble_eq_true rfl) (Nat.zero_le _) (Nat.zero_le _) (Nat.le_of_ble_eq_true rfl) rfl ?_
  refine U_iload_n (n := 66) 1 C dX3_deriveAll_65 rfl rfl ?_
  refine U_isub (n := 67) C dX3_deriveAll_66 rfl ?_
  obtain ⟨hr1, hr2⟩ := Prod.mk.inj (Option.some.inj hf)
  subst hr1; subst hr2
  subst hQ
  exact U_iret C dX3_deriveAll_67 (Nat.le_refl 0) (Nat.le_refl 0)
def f_X3_derive (o : Nat) (h : Hp) : Option (Int32 × Hp) :=
  (rc 3 h o).bind fun _ =>
  (f_X3_save o h).bind fun h2 =>
  bind2 (f_X3_deriveAll o h2) fun v3 h4 =>
  some ((v3, h4))
theorem rc_X3_derive {o : Nat} {h : Hp} {z} (hf : f_X3_derive o h = some z) : rc 3 h o = some () := by
  unfold f_X3_derive at hf
  exact (bsome hf).choose_spec.1
set_option maxHeartbeats 2000000 in
set_option maxRecDepth 20000 in
theorem M_X3_derive {g : GT} {o : Nat} {h : Hp} {r : Int32} {h2 : Hp} (hf : f_X3_derive o h = some (r, h2)) : CM g yX3_derive cX3_derive 1 (some .int) 11 0 0 [.ref o] h (.inr (some (.int r))) h2 := by
  refine CM_of rfl (fun _ => Nat.le_of_ble_eq_true rfl) (fun Γ C hn0 => ?_)
  have C : Cx g Γ cX3_derive RX3 "derive" 1 (some .int) 11 0 0 := C
  generalize hQ : Qe g Γ (.inr (some (.int r))) h2 0 0 = Q
  show U g Γ 1 Q 0 0 0 [(0, .ref o)] [] h
  unfold f_X3_derive at hf
  replace hf := (bsome hf).choose_spec.2
  refine U_aload_n (n := 1) 0 C dX3_derive_0 rfl rfl rfl ?_
  obtain ⟨h2, ev1, hf⟩ := bsome hf
  refine cv_RX3_74 (n := 4) C dX3_derive_1 (av := []) rfl (rc_X3_save ev1) (M_X3_save ev1) (Nat.le_of_ble_eq_true rfl) (Nat.zero_le _) (Nat.zero_le _) (Nat.le_of_ble_eq_true rfl) rfl ?_
  refine U_aload_n (n := 5) 0 C dX3_derive_4 rfl rfl rfl ?_
  obtain ⟨v3, h4, ev3, hf⟩ := bsome2 hf
  refine cv_RX3_119 (n := 8) C dX3_derive_5 (av := []) rfl (rc_X3_deriveAll ev3) (M_X3_deriveAll ev3) (Nat.le_of_ble_eq_true rfl) (Nat.zero_le _) (Nat.zero_le _) (Nat.le_of_ble_eq_true rfl) rfl ?_
  obtain ⟨hr1, hr2⟩ := Prod.mk.inj (Option.some.inj hf)
  subst hr1; subst hr2
  subst hQ
  exact U_iret C dX3_derive_8 (Nat.le_refl 0) (Nat.le_refl 0)
def f_X3_forget (o : Nat) (h : Hp) : Option (Int32 × Hp) :=
  (rc 3 h o).bind fun _ =>
  (f_X3_save o h).bind fun h2 =>
  (fR 3 1 h2 o).bind fun v3 =>
  bind2 (f_X2_forgetDerived v3 h2) fun v4 h5 =>
  some ((v4, h5))
theorem rc_X3_forget {o : Nat} {h : Hp} {z} (hf : f_X3_forget o h = some z) : rc 3 h o = some () := by
  unfold f_X3_forget at hf
  exact (bsome hf).choose_spec.1
set_option maxHeartbeats 2000000 in
set_option maxRecDepth 20000 in
theorem M_X3_forget {g : GT} {o : Nat} {h : Hp} {r : Int32} {h2 : Hp} (hf : f_X3_forget o h = some (r, h2)) : CM g yX3_forget cX3_forget 1 (some .int) 8 0 0 [.ref o] h (.inr (some (.int r))) h2 := by
  refine CM_of rfl (fun _ => Nat.le_of_ble_eq_true rfl) (fun Γ C hn0 => ?_)
  have C : Cx g Γ cX3_forget RX3 "forget" 1 (some .int) 8 0 0 := C
  generalize hQ : Qe g Γ (.inr (some (.int r))) h2 0 0 = Q
  show U g Γ 1 Q 0 0 0 [(0, .ref o)] [] h
  unfold f_X3_forget at hf
  replace hf := (bsome hf).choose_spec.2
  refine U_aload_n (n := 1) 0 C dX3_forget_0 rfl rfl rfl ?_
  obtain ⟨h2, ev1, hf⟩ := bsome hf
  refine cv_RX3_74 (n := 4) C dX3_forget_1 (av := []) rfl (rc_X3_save ev1) (M_X3_save ev1) (Nat.le_of_ble_eq_true rfl) (Nat.zero_le _) (Nat.zero_le _) (Nat.le_of_ble_eq_true rfl) rfl ?_
  refine U_aload_n (n := 5) 0 C dX3_forget_4 rfl rfl rfl ?_
  refine gf_RX3_19 (n := 8) C dX3_forget_5 hf rfl (fun v3 hf => ?_)
  obtain ⟨v4, h5, ev4, hf⟩ := bsome2 hf
  refine cv_RX3_115 (n := 11) C dX3_forget_8 (av := []) rfl (rc_X2_forgetDerived ev4) (M_X2_forgetDerived ev4) (Nat.le_of_ble_eq_true rfl) (Nat.zero_le _) (Nat.zero_le _) (Nat.le_of_ble_eq_true rfl) rfl ?_
  obtain ⟨hr1, hr2⟩ := Prod.mk.inj (Option.some.inj hf)
  subst hr1; subst hr2
  subst hQ
  exact U_iret C dX3_forget_11 (Nat.le_refl 0) (Nat.le_refl 0)
def l_X3_negateAll_4 (p0 : Nat) : Nat → Int32 → Int32 → Hp → Option (Int32 × Hp)
  | 0, _, _, _ => none
  | fuel + 1, x1, x2, h =>
    (fR 3 0 h p0).bind fun v1 =>
    (fI 0 1 h v1).bind fun v2 =>
    if v2 ≤ x2 then (
      some ((x1, h))
    ) else (
      (fR 3 1 h p0).bind fun v4 =>
      (fR 2 4 h v4).bind fun v5 =>
      (aI h v5 x2).bind fun v6 =>
      bind2 (
        if v6 = 0 then (
          some ((x1, h))
        ) else (
          (fR 3 1 h p0).bind fun v13 =>
          (fR 2 3 h v13).bind fun v14 =>
          (fR 3 1 h p0).bind fun v15 =>
          (fR 2 3 h v15).bind fun v16 =>
          (aI h v16 x2).bind fun v17 =>
          (wI h v14 x2 (-v17)).bind fun h18 =>
          some (((x1 + 1), h18))
        )
      ) fun v8 h9 =>
      l_X3_negateAll_4 p0 fuel v8 (x2 + 1) h9
    )
def f_X3_negateAll (o : Nat) (h : Hp) : Option (Int32 × Hp) :=
  (rc 3 h o).bind fun _ =>
  bind2 (l_X3_negateAll_4 o FU (0 : Int32) (0 : Int32) h) fun v19 h20 =>
  some ((v19, h20))
set_option maxHeartbeats 2000000 in
set_option maxRecDepth 20000 in
theorem L_X3_negateAll_4 {g : GT} {Γ : CT} {Q : State → Prop} {mc ms : Nat} (C : Cx g Γ cX3_negateAll RX3 "negateAll" 3 (some .int) 6 mc ms) {p0 : Nat} : ∀ {fuel : Nat} {x1 : Int32} {x2 : Int32} {h : Hp} {y1 : Int32} {hy : Hp}, l_X3_negateAll_4 p0 fuel x1 x2 h = some (y1, hy) → U g Γ 3 Q 0 0 55 [(1, .int y1)] [] hy → U g Γ 3 Q 0 0 4 [(0, .ref p0), (1, .int x1), (2, .int x2)] [] h := by
  intro fuel
  induction fuel with
  | zero =>
    intro x1 x2 h y1 hy hf J0
    simp only [l_X3_negateAll_4, reduceCtorEq] at hf
  | succ fuel ih =>
    intro x1 x2 h y1 hy hf J0
    rw [l_X3_negateAll_4] at hf
    refine U_iload_n (n := 5) 2 C dX3_negateAll_4 rfl rfl ?_
    refine U_aload_n (n := 6) 0 C dX3_negateAll_5 rfl rfl rfl ?_
    refine gf_RX3_10 (n := 9) C dX3_negateAll_6 hf rfl (fun v1 hf => ?_)
    refine gf_RX3_77 (n := 12) C dX3_negateAll_9 hf rfl (fun v2 hf => ?_)
    refine U_icge (tgt := 55) (n := 15) C dX3_negateAll_12 (by decide) rfl (fun c3 => ?_) (fun c3 => ?_)
    · replace hf := (if_pos c3).symm.trans hf
      obtain ⟨hr0, hs0⟩ := Prod.mk.inj (Option.some.inj hf)
      subst hr0
      subst hs0
      exact U_lv [1] rfl J0
    · replace hf := (if_neg c3).symm.trans hf
      refine U_aload_n (n := 16) 0 C dX3_negateAll_15 rfl rfl rfl ?_
      refine gf_RX3_19 (n := 19) C dX3_negateAll_16 hf rfl (fun v4 hf => ?_)
      refine gf_RX3_100 (n := 22) C dX3_negateAll_19 hf rfl (fun v5 hf => ?_)
      refine U_iload_n (n := 23) 2 C dX3_negateAll_22 rfl rfl ?_
      refine U_iald (n := 24) C dX3_negateAll_23 hf rfl (fun v6 hf => ?_)
      refine U_join2 (fun v8 h9 => U g Γ 3 Q 0 0 49 [(0, .ref p0), (1, .int v8), (2, .int x2)] [] h9) hf (fun v8 h9 hf => ?_) (fun v8 h9 hf J11 => ?_)
      · skip
        refine U_iinc (n := 52) (v := (x2 + 1)) (lv2 := [(2, .int (x2 + 1)), (0, .ref p0), (1, .int v8)]) 2 C dX3_negateAll_49 rfl rfl (by decide) rfl rfl ?_
        refine U_goto (n := 0) (tgt := 4) C dX3_negateAll_52 (by decide) ?_
        exact U_lv [1, 2, 0] rfl (ih hf J0)
      · skip
        refine U_ifeq (tgt := 49) (n := 27) C dX3_negateAll_24 (by decide) rfl (fun c7 => ?_) (fun c7 => ?_)
        · replace hf := (if_pos c7).symm.trans hf
          obtain ⟨hr0, hs0⟩ := Prod.mk.inj (Option.some.inj hf)
          subst hr0
          subst hs0
          exact U_lv [0, 1, 2] rfl J11
        · replace hf := (if_neg c7).symm.trans hf
          refine U_aload_n (n := 28) 0 C dX3_negateAll_27 rfl rfl rfl ?_
          refine gf_RX3_19 (n := 31) C dX3_negateAll_28 hf rfl (fun v13 hf => ?_)
          refine gf_RX3_129 (n := 34) C dX3_negateAll_31 hf rfl (fun v14 hf => ?_)
          refine U_iload_n (n := 35) 2 C dX3_negateAll_34 rfl rfl ?_
          refine U_aload_n (n := 36) 0 C dX3_negateAll_35 rfl rfl rfl ?_
          refine gf_RX3_19 (n := 39) C dX3_negateAll_36 hf rfl (fun v15 hf => ?_)
          refine gf_RX3_129 (n := 42) C dX3_negateAll_39 hf rfl (fun v16 hf => ?_)
          refine U_iload_n (n := 43) 2 C dX3_negateAll_42 rfl rfl ?_
          refine U_iald (n := 44) C dX3_negateAll_43 hf rfl (fun v17 hf => ?_)
          refine U_ineg (n := 45) C dX3_negateAll_44 rfl ?_
          refine U_iast (n := 46) C dX3_negateAll_45 hf rfl (fun h18 hf => ?_)
          refine U_iinc (n := 49) (v := (x1 + 1)) (lv2 := [(1, .int (x1 + 1)), (0, .ref p0), (2, .int x2)]) 1 C dX3_negateAll_46 rfl rfl (by decide) rfl rfl ?_
          obtain ⟨hr0, hs0⟩ := Prod.mk.inj (Option.some.inj hf)
          subst hr0
          subst hs0
          exact U_lv [1, 0, 2] rfl J11
theorem rc_X3_negateAll {o : Nat} {h : Hp} {z} (hf : f_X3_negateAll o h = some z) : rc 3 h o = some () := by
  unfold f_X3_negateAll at hf
  exact (bsome hf).choose_spec.1
set_option maxHeartbeats 2000000 in
set_option maxRecDepth 20000 in
theorem M_X3_negateAll {g : GT} {o : Nat} {h : Hp} {r : Int32} {h2 : Hp} (hf : f_X3_negateAll o h = some (r, h2)) : CM g yX3_negateAll cX3_negateAll 3 (some .int) 6 0 0 [.ref o] h (.inr (some (.int r))) h2 := by
  refine CM_of rfl (fun _ => Nat.le_of_ble_eq_true rfl) (fun Γ C hn0 => ?_)
  have C : Cx g Γ cX3_negateAll RX3 "negateAll" 3 (some .int) 6 0 0 := C
  generalize hQ : Qe g Γ (.inr (some (.int r))) h2 0 0 = Q
  show U g Γ 3 Q 0 0 0 [(0, .ref o)] [] h
  unfold f_X3_negateAll at hf
  replace hf := (bsome hf).choose_spec.2
  refine U_iconst (n := 1) (0 : Int32) C dX3_negateAll_0 kiconst_0 rfl ?_
  refine U_istore_n (n := 2) (lv2 := [(1, .int (0 : Int32)), (0, .ref o)]) C dX3_negateAll_1 (by decide) rfl rfl ?_
  refine U_iconst (n := 3) (0 : Int32) C dX3_negateAll_2 kiconst_0 rfl ?_
  refine U_istore_n (n := 4) (lv2 := [(2, .int (0 : Int32)), (1, .int (0 : Int32)), (0, .ref o)]) C dX3_negateAll_3 (by decide) rfl rfl ?_
  refine U_join2 (fun v19 h20 => U g Γ 3 Q 0 0 55 [(1, .int v19)] [] h20) hf (fun v19 h20 hf => ?_) (fun v19 h20 hf J => U_lv [2, 1, 0] rfl (L_X3_negateAll_4 C hf J))
  refine U_iload_n (n := 56) 0 C dX3_negateAll_55 rfl rfl ?_
  obtain ⟨hr1, hr2⟩ := Prod.mk.inj (Option.some.inj hf)
  subst hr1; subst hr2
  subst hQ
  exact U_iret C dX3_negateAll_56 (Nat.le_refl 0) (Nat.le_refl 0)
def f_X3_mirror (o : Nat) (h : Hp) : Option (Int32 × Hp) :=
  (rc 3 h o).bind fun _ =>
  (f_X3_save o h).bind fun h2 =>
  bind2 (f_X3_negateAll o h2) fun v3 h4 =>
  some ((v3, h4))
theorem rc_X3_mirror {o : Nat} {h : Hp} {z} (hf : f_X3_mirror o h = some z) : rc 3 h o = some () := by
  unfold f_X3_mirror at hf
  exact (bsome hf).choose_spec.1
set_option maxHeartbeats 2000000 in
set_option maxRecDepth 20000 in
theorem M_X3_mirror {g : GT} {o : Nat} {h : Hp} {r : Int32} {h2 : Hp} (hf : f_X3_mirror o h = some (r, h2)) : CM g yX3_mirror cX3_mirror 1 (some .int) 8 0 0 [.ref o] h (.inr (some (.int r))) h2 := by
  refine CM_of rfl (fun _ => Nat.le_of_ble_eq_true rfl) (fun Γ C hn0 => ?_)
  have C : Cx g Γ cX3_mirror RX3 "mirror" 1 (some .int) 8 0 0 := C
  generalize hQ : Qe g Γ (.inr (some (.int r))) h2 0 0 = Q
  show U g Γ 1 Q 0 0 0 [(0, .ref o)] [] h
  unfold f_X3_mirror at hf
  replace hf := (bsome hf).choose_spec.2
  refine U_aload_n (n := 1) 0 C dX3_mirror_0 rfl rfl rfl ?_
  obtain ⟨h2, ev1, hf⟩ := bsome hf
  refine cv_RX3_74 (n := 4) C dX3_mirror_1 (av := []) rfl (rc_X3_save ev1) (M_X3_save ev1) (Nat.le_of_ble_eq_true rfl) (Nat.zero_le _) (Nat.zero_le _) (Nat.le_of_ble_eq_true rfl) rfl ?_
  refine U_aload_n (n := 5) 0 C dX3_mirror_4 rfl rfl rfl ?_
  obtain ⟨v3, h4, ev3, hf⟩ := bsome2 hf
  refine cv_RX3_122 (n := 8) C dX3_mirror_5 (av := []) rfl (rc_X3_negateAll ev3) (M_X3_negateAll ev3) (Nat.le_of_ble_eq_true rfl) (Nat.zero_le _) (Nat.zero_le _) (Nat.le_of_ble_eq_true rfl) rfl ?_
  obtain ⟨hr1, hr2⟩ := Prod.mk.inj (Option.some.inj hf)
  subst hr1; subst hr2
  subst hQ
  exact U_iret C dX3_mirror_8 (Nat.le_refl 0) (Nat.le_refl 0)
def l_X3_turn_13 (p0 : Nat) (p1 : Int32) : Nat → Int32 → Int32 → Hp → Option (Int32 × Hp)
  | 0, _, _, _ => none
  | fuel + 1, x2, x3, h =>
    (fR 3 0 h p0).bind fun v4 =>
    (fI 0 1 h v4).bind fun v5 =>
    if v5 ≤ x3 then (
      some ((x2, h))
    ) else (
      (fR 3 0 h p0).bind fun v7 =>
      (f_X0_hasCorner v7 x3 p1 h).bind fun v8 =>
      bind2 (
        if v8 = 0 then (
          some ((x2, h))
        ) else (
          (fR 3 1 h p0).bind fun v15 =>
          (fR 2 4 h v15).bind fun v16 =>
          (aI h v16 x3).bind fun v17 =>
          if v17 = 0 then (
            some ((x2, h))
          ) else (
            (fR 3 1 h p0).bind fun v19 =>
            (fR 2 3 h v19).bind fun v20 =>
            (fR 3 1 h p0).bind fun v21 =>
            (fR 2 3 h v21).bind fun v22 =>
            (aI h v22 x3).bind fun v23 =>
            (wI h v20 x3 (-v23)).bind fun h24 =>
            some (((x2 + 1), h24))
          )
        )
      ) fun v10 h11 =>
      l_X3_turn_13 p0 p1 fuel v10 (x3 + 1) h11
    )
def f_X3_turn (o : Nat) (a1 : Int32) (h : Hp) : Option ((Nat ⊕ Int32) × Hp) :=
  (rc 3 h o).bind fun _ =>
  bindT (f_X3_requirePoint o a1 h) (fun kv1 => some ((.inl kv1, h))) fun v1 =>
  (f_X3_save o h).bind fun h3 =>
  bind2 (l_X3_turn_13 o a1 FU (0 : Int32) (0 : Int32) h3) fun v25 h26 =>
  some ((.inr v25, h26))
set_option maxHeartbeats 2000000 in
set_option maxRecDepth 20000 in
theorem L_X3_turn_13 {g : GT} {Γ : CT} {Q : State → Prop} {mc ms : Nat} (C : Cx g Γ cX3_turn RX3 "turn" 4 (some .int) 8 mc ms) {p0 : Nat} {p1 : Int32} : ∀ {fuel : Nat} {x2 : Int32} {x3 : Int32} {h : Hp} {y2 : Int32} {hy : Hp}, l_X3_turn_13 p0 p1 fuel x2 x3 h = some (y2, hy) → U g Γ 4 Q 0 0 76 [(2, .int y2)] [] hy → U g Γ 4 Q 0 0 13 [(0, .ref p0), (1, .int p1), (2, .int x2), (3, .int x3)] [] h := by
  intro fuel
  induction fuel with
  | zero =>
    intro x2 x3 h y2 hy hf J0
    simp only [l_X3_turn_13, reduceCtorEq] at hf
  | succ fuel ih =>
    intro x2 x3 h y2 hy hf J0
    rw [l_X3_turn_13] at hf
    refine U_iload_n (n := 14) 3 C dX3_turn_13 rfl rfl ?_
    refine U_aload_n (n := 15) 0 C dX3_turn_14 rfl rfl rfl ?_
    refine gf_RX3_10 (n := 18) C dX3_turn_15 hf rfl (fun v4 hf => ?_)
    refine gf_RX3_77 (n := 21) C dX3_turn_18 hf rfl (fun v5 hf => ?_)
    refine U_icge (tgt := 76) (n := 24) C dX3_turn_21 (by decide) rfl (fun c6 => ?_) (fun c6 => ?_)
    · replace hf := (if_pos c6).symm.trans hf
      obtain ⟨hr0, hs0⟩ := Prod.mk.inj (Option.some.inj hf)
      subst hr0
      subst hs0
      exact U_lv [2] rfl J0
    · replace hf := (if_neg c6).symm.trans hf
      refine U_aload_n (n := 25) 0 C dX3_turn_24 rfl rfl rfl ?_
      refine gf_RX3_10 (n := 28) C dX3_turn_25 hf rfl (fun v7 hf => ?_)
      refine U_iload_n (n := 29) 3 C dX3_turn_28 rfl rfl ?_
      refine U_iload_n (n := 30) 1 C dX3_turn_29 rfl rfl ?_
      obtain ⟨v8, ev8, hf⟩ := bsome hf
      refine cv_RX3_125 (n := 33) C dX3_turn_30 (av := [.int x3, .int p1]) rfl (rc_X0_hasCorner ev8) (M_X0_hasCorner ev8) (Nat.le_of_ble_eq_true rfl) (Nat.zero_le _) (Nat.zero_le _) (Nat.le_of_ble_eq_true rfl) rfl ?_
      refine U_join2 (fun v10 h11 => U g Γ 4 Q 0 0 70 [(0, .ref p0), (1, .int p1), (2, .int v10), (3, .int x3)] [] h11) hf (fun v10 h11 hf => ?_) (fun v10 h11 hf J13 => ?_)
      · skip
        refine U_iinc (n := 73) (v := (x3 + 1)) (lv2 := [(3, .int (x3 + 1)), (0, .ref p0), (1, .int p1), (2, .int v10)]) 3 C dX3_turn_70 rfl rfl (by decide) rfl rfl ?_
        refine U_goto (n := 0) (tgt := 13) C dX3_turn_73 (by decide) ?_
        exact U_lv [1, 2, 3, 0] rfl (ih hf J0)
      · skip
        refine U_ifeq (tgt := 70) (n := 36) C dX3_turn_33 (by decide) rfl (fun c9 => ?_) (fun c9 => ?_)
        · replace hf := (if_pos c9).symm.trans hf
          obtain ⟨hr0, hs0⟩ := Prod.mk.inj (Option.some.inj hf)
          subst hr0
          subst hs0
          exact U_lv [0, 1, 2, 3] rfl J13
        · replace hf := (if_neg c9).symm.trans hf
          refine U_aload_n (n := 37) 0 C dX3_turn_36 rfl rfl rfl ?_
          refine gf_RX3_19 (n := 40) C dX3_turn_37 hf rfl (fun v15 hf => ?_)
          refine gf_RX3_100 (n := 43) C dX3_turn_40 hf rfl (fun v16 hf => ?_)
          refine U_iload_n (n := 44) 3 C dX3_turn_43 rfl rfl ?_
          refine U_iald (n := 45) C dX3_turn_44 hf rfl (fun v17 hf => ?_)
          refine U_ifeq (tgt := 70) (n := 48) C dX3_turn_45 (by decide) rfl (fun c18 => ?_) (fun c18 => ?_)
          · replace hf := (if_pos c18).symm.trans hf
            obtain ⟨hr0, hs0⟩ := Prod.mk.inj (Option.some.inj hf)
            subst hr0
            subst hs0
            exact U_lv [0, 1, 2, 3] rfl J13
          · replace hf := (if_neg c18).symm.trans hf
            refine U_aload_n (n := 49) 0 C dX3_turn_48 rfl rfl rfl ?_
            refine gf_RX3_19 (n := 52) C dX3_turn_49 hf rfl (fun v19 hf => ?_)
            refine gf_RX3_129 (n := 55) C dX3_turn_52 hf rfl (fun v20 hf => ?_)
            refine U_iload_n (n := 56) 3 C dX3_turn_55 rfl rfl ?_
            refine U_aload_n (n := 57) 0 C dX3_turn_56 rfl rfl rfl ?_
            refine gf_RX3_19 (n := 60) C dX3_turn_57 hf rfl (fun v21 hf => ?_)
            refine gf_RX3_129 (n := 63) C dX3_turn_60 hf rfl (fun v22 hf => ?_)
            refine U_iload_n (n := 64) 3 C dX3_turn_63 rfl rfl ?_
            refine U_iald (n := 65) C dX3_turn_64 hf rfl (fun v23 hf => ?_)
            refine U_ineg (n := 66) C dX3_turn_65 rfl ?_
            refine U_iast (n := 67) C dX3_turn_66 hf rfl (fun h24 hf => ?_)
            refine U_iinc (n := 70) (v := (x2 + 1)) (lv2 := [(2, .int (x2 + 1)), (0, .ref p0), (1, .int p1), (3, .int x3)]) 2 C dX3_turn_67 rfl rfl (by decide) rfl rfl ?_
            obtain ⟨hr0, hs0⟩ := Prod.mk.inj (Option.some.inj hf)
            subst hr0
            subst hs0
            exact U_lv [1, 2, 0, 3] rfl J13
theorem rc_X3_turn {o : Nat} {a1 : Int32} {h : Hp} {z} (hf : f_X3_turn o a1 h = some z) : rc 3 h o = some () := by
  unfold f_X3_turn at hf
  exact (bsome hf).choose_spec.1
set_option maxHeartbeats 2000000 in
set_option maxRecDepth 20000 in
theorem M_X3_turn {g : GT} {o : Nat} {a1 : Int32} {h : Hp} {r : (Nat ⊕ Int32)} {h2 : Hp} (hf : f_X3_turn o a1 h = some (r, h2)) : CM g yX3_turn cX3_turn 4 (some .int) 8 0 0 [.ref o, .int a1] h (rI r) h2 := by
  refine CM_of rfl (fun _ => Nat.le_of_ble_eq_true rfl) (fun Γ C hn0 => ?_)
  have C : Cx g Γ cX3_turn RX3 "turn" 4 (some .int) 8 (0 + er (rI r)) (0 + 6 * er (rI r)) := C
  generalize hQ : Qe g Γ (rI r) h2 0 0 = Q
  show U g Γ 4 Q 0 0 0 [(0, .ref o), (1, .int a1)] [] h
  unfold f_X3_turn at hf
  replace hf := (bsome hf).choose_spec.2
  refine U_aload_n (n := 1) 0 C dX3_turn_0 rfl rfl rfl ?_
  refine U_iload_n (n := 2) 1 C dX3_turn_1 rfl rfl ?_
  rcases bsomeT hf with ⟨kv1, ev1, hf⟩ | ⟨v1, ev1, hf⟩
  · skip
    obtain ⟨hr1, hr2⟩ := Prod.mk.inj (Option.some.inj hf)
    subst hr1; subst hr2
    subst hQ
    exact xv_RX3_80 kv1 C dX3_turn_2 (av := [.int a1]) rfl (rc_X3_requirePoint ev1) (M_X3_requirePoint ev1) (Nat.le_of_ble_eq_true rfl) (Nat.le_of_ble_eq_true rfl)
  refine cv_RX3_80 (n := 5) C dX3_turn_2 (av := [.int a1]) rfl (rc_X3_requirePoint ev1) (M_X3_requirePoint ev1) (Nat.le_of_ble_eq_true rfl) (Nat.zero_le _) (Nat.zero_le _) (Nat.le_of_ble_eq_true rfl) rfl ?_
  refine U_aload_n (n := 6) 0 C dX3_turn_5 rfl rfl rfl ?_
  obtain ⟨h3, ev2, hf⟩ := bsome hf
  refine cv_RX3_74 (n := 9) C dX3_turn_6 (av := []) rfl (rc_X3_save ev2) (M_X3_save ev2) (Nat.le_of_ble_eq_true rfl) (Nat.zero_le _) (Nat.zero_le _) (Nat.le_of_ble_eq_true rfl) rfl ?_
  refine U_iconst (n := 10) (0 : Int32) C dX3_turn_9 kiconst_0 rfl ?_
  refine U_istore_n (n := 11) (lv2 := [(2, .int (0 : Int32)), (0, .ref o), (1, .int a1)]) C dX3_turn_10 (by decide) rfl rfl ?_
  refine U_iconst (n := 12) (0 : Int32) C dX3_turn_11 kiconst_0 rfl ?_
  refine U_istore_n (n := 13) (lv2 := [(3, .int (0 : Int32)), (2, .int (0 : Int32)), (0, .ref o), (1, .int a1)]) C dX3_turn_12 (by decide) rfl rfl ?_
  refine U_join2 (fun v25 h26 => U g Γ 4 Q 0 0 76 [(2, .int v25)] [] h26) hf (fun v25 h26 hf => ?_) (fun v25 h26 hf J => U_lv [2, 3, 1, 0] rfl (L_X3_turn_13 C hf J))
  refine U_iload_n (n := 77) 0 C dX3_turn_76 rfl rfl ?_
  obtain ⟨hr1, hr2⟩ := Prod.mk.inj (Option.some.inj hf)
  subst hr1; subst hr2
  subst hQ
  exact U_iret C dX3_turn_77 (Nat.le_refl 0) (Nat.le_refl 0)
def f_X3_partner (a0 : Int32) (a1 : Int32) (a2 : Int32) : Option Int32 :=
  if a0 = a1 then (
    some (a2)
  ) else (
    if a0 = a2 then (
      some (a1)
    ) else (
      some (a0)
    )
  )
set_option maxHeartbeats 2000000 in
set_option maxRecDepth 20000 in
theorem M_X3_partner {g : GT} {a0 : Int32} {a1 : Int32} {a2 : Int32} {h : Hp} {r : Int32} (hf : f_X3_partner a0 a1 a2 = some r) : CM g yX3_partner cX3_partner 3 (some .int) 6 0 0 [.int a0, .int a1, .int a2] h (.inr (some (.int r))) h := by
  refine CM_of rfl (fun _ => Nat.le_of_ble_eq_true rfl) (fun Γ C hn0 => ?_)
  have C : Cx g Γ cX3_partner RX3 "partner" 3 (some .int) 6 0 0 := C
  generalize hQ : Qe g Γ (.inr (some (.int r))) h 0 0 = Q
  show U g Γ 3 Q 0 0 0 [(0, .int a0), (1, .int a1), (2, .int a2)] [] h
  unfold f_X3_partner at hf
  refine U_iload_n (n := 1) 0 C dX3_partner_0 rfl rfl ?_
  refine U_iload_n (n := 2) 1 C dX3_partner_1 rfl rfl ?_
  refine U_icne (tgt := 7) (n := 5) C dX3_partner_2 (by decide) rfl (fun c1 => ?_) (fun c1 => ?_)
  · replace hf := (if_pos c1).symm.trans hf
    refine U_iload_n (n := 6) 2 C dX3_partner_5 rfl rfl ?_
    have hr := (Option.some.inj hf)
    subst hr
    subst hQ
    exact U_iret C dX3_partner_6 (Nat.le_refl 0) (Nat.le_refl 0)
  · replace hf := (if_neg c1).symm.trans hf
    refine U_iload_n (n := 8) 0 C dX3_partner_7 rfl rfl ?_
    refine U_iload_n (n := 9) 2 C dX3_partner_8 rfl rfl ?_
    refine U_icne (tgt := 16) (n := 12) C dX3_partner_9 (by decide) rfl (fun c2 => ?_) (fun c2 => ?_)
    · replace hf := (if_pos c2).symm.trans hf
      refine U_iload_n (n := 13) 1 C dX3_partner_12 rfl rfl ?_
      refine U_goto (n := 0) (tgt := 17) C dX3_partner_13 (by decide) ?_
      have hr := (Option.some.inj hf)
      subst hr
      subst hQ
      exact U_iret C dX3_partner_17 (Nat.le_refl 0) (Nat.le_refl 0)
    · replace hf := (if_neg c2).symm.trans hf
      refine U_iload_n (n := 17) 0 C dX3_partner_16 rfl rfl ?_
      have hr := (Option.some.inj hf)
      subst hr
      subst hQ
      exact U_iret C dX3_partner_17 (Nat.le_refl 0) (Nat.le_refl 0)
def l_X3_exchangeSigns_2 (p0 : Nat) (p1 : Int32) (p2 : Int32) : Nat → Int32 → Hp → Option Hp
  | 0, _, _ => none
  | fuel + 1, x3, h =>
    (fR 3 0 h p0).bind fun v1 =>
    (fI 0 1 h v1).bind fun v2 =>
    if v2 ≤ x3 then (
      some h
    ) else (
      (fR 3 0 h p0).bind fun v4 =>
      (f_X0_corner v4 x3 (0 : Int32) h).bind fun v5 =>
      (f_X3_partner v5 p1 p2).bind fun v6 =>
      (fR 3 0 h p0).bind fun v7 =>
      (f_X0_corner v7 x3 (1 : Int32) h).bind fun v8 =>
      (f_X3_partner v8 p1 p2).bind fun v9 =>
      (fR 3 0 h p0).bind fun v10 =>
      (f_X0_corner v10 x3 (2 : Int32) h).bind fun v11 =>
      (f_X3_partner v11 p1 p2).bind fun v12 =>
      (fR 3 5 h p0).bind fun v13 =>
      (f_X3_orderedSign p0 v6 v9 v12 h).bind fun v14 =>
      (wI h v13 x3 v14).bind fun h15 =>
      l_X3_exchangeSigns_2 p0 p1 p2 fuel (x3 + 1) h15
    )
def l_X3_exchangeSigns_85 (p0 : Nat) : Nat → Int32 → Hp → Option Hp
  | 0, _, _ => none
  | fuel + 1, x3, h =>
    (fR 3 0 h p0).bind fun v17 =>
    (fI 0 1 h v17).bind fun v18 =>
    if v18 ≤ x3 then (
      some h
    ) else (
      (fR 3 5 h p0).bind fun v20 =>
      (aI h v20 x3).bind fun v21 =>
      (
        if v21 = (-100 : Int32) then (
          (fR 3 1 h p0).bind fun v27 =>
          (f_X2_setUnknown v27 x3 h).bind fun h29 =>
          some h29
        ) else (
          (fR 3 1 h p0).bind fun v30 =>
          (fR 3 5 h p0).bind fun v31 =>
          (aI h v31 x3).bind fun v32 =>
          (f_X2_setGiven v30 x3 v32 h).bind fun h34 =>
          some h34
        )
      ).bind fun h23 =>
      l_X3_exchangeSigns_85 p0 fuel (x3 + 1) h23
    )
def f_X3_exchangeSigns (o : Nat) (a1 : Int32) (a2 : Int32) (h : Hp) : Option Hp :=
  (rc 3 h o).bind fun _ =>
  (l_X3_exchangeSigns_2 o a1 a2 FU (0 : Int32) h).bind fun h16 =>
  (l_X3_exchangeSigns_85 o FU (0 : Int32) h16).bind fun h35 =>
  some (h35)
set_option maxHeartbeats 2000000 in
set_option maxRecDepth 20000 in
theorem L_X3_exchangeSigns_2 {g : GT} {Γ : CT} {Q : State → Prop} {mc ms : Nat} (C : Cx g Γ cX3_exchangeSigns RX3 "exchangeSigns" 7 none 9 mc ms) {p0 : Nat} {p1 : Int32} {p2 : Int32} : ∀ {fuel : Nat} {x3 : Int32} {h : Hp} {hy : Hp}, l_X3_exchangeSigns_2 p0 p1 p2 fuel x3 h = some hy → U g Γ 7 Q 0 0 83 [(0, .ref p0)] [] hy → U g Γ 7 Q 0 0 2 [(0, .ref p0), (1, .int p1), (2, .int p2), (3, .int x3)] [] h := by
  intro fuel
  induction fuel with
  | zero =>
    intro x3 h hy hf J0
    simp only [l_X3_exchangeSigns_2, reduceCtorEq] at hf
  | succ fuel ih =>
    intro x3 h hy hf J0
    rw [l_X3_exchangeSigns_2] at hf
    refine U_iload_n (n := 3) 3 C dX3_exchangeSigns_2 rfl rfl ?_
    refine U_aload_n (n := 4) 0 C dX3_exchangeSigns_3 rfl rfl rfl ?_
    refine gf_RX3_10 (n := 7) C dX3_exchangeSigns_4 hf rfl (fun v1 hf => ?_)
    refine gf_RX3_77 (n := 10) C dX3_exchangeSigns_7 hf rfl (fun v2 hf => ?_)
    refine U_icge (tgt := 83) (n := 13) C dX3_exchangeSigns_10 (by decide) rfl (fun c3 => ?_) (fun c3 => ?_)
    · replace hf := (if_pos c3).symm.trans hf
      have hr := Option.some.inj hf
      subst hr
      exact U_lv [0] rfl J0
    · replace hf := (if_neg c3).symm.trans hf
      refine U_aload_n (n := 14) 0 C dX3_exchangeSigns_13 rfl rfl rfl ?_
      refine gf_RX3_10 (n := 17) C dX3_exchangeSigns_14 hf rfl (fun v4 hf => ?_)
      refine U_iload_n (n := 18) 3 C dX3_exchangeSigns_17 rfl rfl ?_
      refine U_iconst (n := 19) (0 : Int32) C dX3_exchangeSigns_18 kiconst_0 rfl ?_
      obtain ⟨v5, ev5, hf⟩ := bsome hf
      refine cv_RX3_148 (n := 22) C dX3_exchangeSigns_19 (av := [.int x3, .int (0 : Int32)]) rfl (rc_X0_corner ev5) (M_X0_corner ev5) (Nat.le_of_ble_eq_true rfl) (Nat.zero_le _) (Nat.zero_le _) (Nat.le_of_ble_eq_true rfl) rfl ?_
      refine U_iload_n (n := 23) 1 C dX3_exchangeSigns_22 rfl rfl ?_
      refine U_iload_n (n := 24) 2 C dX3_exchangeSigns_23 rfl rfl ?_
      obtain ⟨v6, ev6, hf⟩ := bsome hf
      refine cv_RX3_345 (n := 27) C dX3_exchangeSigns_24 (av := [.int v5, .int p1, .int p2]) rfl (M_X3_partner ev6) (Nat.le_of_ble_eq_true rfl) (Nat.zero_le _) (Nat.zero_le _) (Nat.le_of_ble_eq_true rfl) rfl ?_
      refine U_istore (n := 29) (lv2 := [(4, .int v6), (0, .ref p0), (1, .int p1), (2, .int p2), (3, .int x3)]) C dX3_exchangeSigns_27 (by decide) rfl rfl ?_
      refine U_aload_n (n := 30) 1 C dX3_exchangeSigns_29 rfl rfl rfl ?_
      refine gf_RX3_10 (n := 33) C dX3_exchangeSigns_30 hf rfl (fun v7 hf => ?_)
      refine U_iload_n (n := 34) 4 C dX3_exchangeSigns_33 rfl rfl ?_
      refine U_iconst (n := 35) (1 : Int32) C dX3_exchangeSigns_34 kiconst_1 rfl ?_
      obtain ⟨v8, ev8, hf⟩ := bsome hf
      refine cv_RX3_148 (n := 38) C dX3_exchangeSigns_35 (av := [.int x3, .int (1 : Int32)]) rfl (rc_X0_corner ev8) (M_X0_corner ev8) (Nat.le_of_ble_eq_true rfl) (Nat.zero_le _) (Nat.zero_le _) (Nat.le_of_ble_eq_true rfl) rfl ?_
      refine U_iload_n (n := 39) 2 C dX3_exchangeSigns_38 rfl rfl ?_
      refine U_iload_n (n := 40) 3 C dX3_exchangeSigns_39 rfl rfl ?_
      obtain ⟨v9, ev9, hf⟩ := bsome hf
      refine cv_RX3_345 (n := 43) C dX3_exchangeSigns_40 (av := [.int v8, .int p1, .int p2]) rfl (M_X3_partner ev9) (Nat.le_of_ble_eq_true rfl) (Nat.zero_le _) (Nat.zero_le _) (Nat.le_of_ble_eq_true rfl) rfl ?_
      refine U_istore (n := 45) (lv2 := [(5, .int v9), (4, .int v6), (0, .ref p0), (1, .int p1), (2, .int p2), (3, .int x3)]) C dX3_exchangeSigns_43 (by decide) rfl rfl ?_
      refine U_aload_n (n := 46) 2 C dX3_exchangeSigns_45 rfl rfl rfl ?_
      refine gf_RX3_10 (n := 49) C dX3_exchangeSigns_46 hf rfl (fun v10 hf => ?_)
      refine U_iload_n (n := 50) 5 C dX3_exchangeSigns_49 rfl rfl ?_
      refine U_iconst (n := 51) (2 : Int32) C dX3_exchangeSigns_50 kiconst_2 rfl ?_
      obtain ⟨v11, ev11, hf⟩ := bsome hf
      refine cv_RX3_148 (n := 54) C dX3_exchangeSigns_51 (av := [.int x3, .int (2 : Int32)]) rfl (rc_X0_corner ev11) (M_X0_corner ev11) (Nat.le_of_ble_eq_true rfl) (Nat.zero_le _) (Nat.zero_le _) (Nat.le_of_ble_eq_true rfl) rfl ?_
      refine U_iload_n (n := 55) 3 C dX3_exchangeSigns_54 rfl rfl ?_
      refine U_iload_n (n := 56) 4 C dX3_exchangeSigns_55 rfl rfl ?_
      obtain ⟨v12, ev12, hf⟩ := bsome hf
      refine cv_RX3_345 (n := 59) C dX3_exchangeSigns_56 (av := [.int v11, .int p1, .int p2]) rfl (M_X3_partner ev12) (Nat.le_of_ble_eq_true rfl) (Nat.zero_le _) (Nat.zero_le _) (Nat.le_of_ble_eq_true rfl) rfl ?_
      refine U_istore (n := 61) (lv2 := [(6, .int v12), (5, .int v9), (4, .int v6), (0, .ref p0), (1, .int p1), (2, .int p2), (3, .int x3)]) C dX3_exchangeSigns_59 (by decide) rfl rfl ?_
      refine U_aload_n (n := 62) 3 C dX3_exchangeSigns_61 rfl rfl rfl ?_
      refine gf_RX3_38 (n := 65) C dX3_exchangeSigns_62 hf rfl (fun v13 hf => ?_)
      refine U_iload_n (n := 66) 6 C dX3_exchangeSigns_65 rfl rfl ?_
      refine U_aload_n (n := 67) 3 C dX3_exchangeSigns_66 rfl rfl rfl ?_
      refine U_iload (n := 69) 2 C dX3_exchangeSigns_67 rfl rfl ?_
      refine U_iload (n := 71) 1 C dX3_exchangeSigns_69 rfl rfl ?_
      refine U_iload (n := 73) 0 C dX3_exchangeSigns_71 rfl rfl ?_
      obtain ⟨v14, ev14, hf⟩ := bsome hf
      refine cv_RX3_89 (n := 76) C dX3_exchangeSigns_73 (av := [.int v6, .int v9, .int v12]) rfl (rc_X3_orderedSign ev14) (M_X3_orderedSign ev14) (Nat.le_of_ble_eq_true rfl) (Nat.zero_le _) (Nat.zero_le _) (Nat.le_of_ble_eq_true rfl) rfl ?_
      refine U_iast (n := 77) C dX3_exchangeSigns_76 hf rfl (fun h15 hf => ?_)
      refine U_iinc (n := 80) (v := (x3 + 1)) (lv2 := [(3, .int (x3 + 1)), (6, .int v12), (5, .int v9), (4, .int v6), (0, .ref p0), (1, .int p1), (2, .int p2)]) 6 C dX3_exchangeSigns_77 rfl rfl (by decide) rfl rfl ?_
      refine U_goto (n := 0) (tgt := 2) C dX3_exchangeSigns_80 (by decide) ?_
      exact U_lv [4, 5, 6, 0] rfl (ih hf J0)
set_option maxHeartbeats 2000000 in
set_option maxRecDepth 20000 in
theorem L_X3_exchangeSigns_85 {g : GT} {Γ : CT} {Q : State → Prop} {mc ms : Nat} (C : Cx g Γ cX3_exchangeSigns RX3 "exchangeSigns" 7 none 9 mc ms) {p0 : Nat} : ∀ {fuel : Nat} {x3 : Int32} {h : Hp} {hy : Hp}, l_X3_exchangeSigns_85 p0 fuel x3 h = some hy → U g Γ 7 Q 0 0 138 [] [] hy → U g Γ 7 Q 0 0 85 [(0, .ref p0), (3, .int x3)] [] h := by
  intro fuel
  induction fuel with
  | zero =>
    intro x3 h hy hf J0
    simp only [l_X3_exchangeSigns_85, reduceCtorEq] at hf
  | succ fuel ih =>
    intro x3 h hy hf J0
    rw [l_X3_exchangeSigns_85] at hf
    refine U_iload_n (n := 86) 1 C dX3_exchangeSigns_85 rfl rfl ?_
    refine U_aload_n (n := 87) 0 C dX3_exchangeSigns_86 rfl rfl rfl ?_
    refine gf_RX3_10 (n := 90) C dX3_exchangeSigns_87 hf rfl (fun v17 hf => ?_)
    refine gf_RX3_77 (n := 93) C dX3_exchangeSigns_90 hf rfl (fun v18 hf => ?_)
    refine U_icge (tgt := 138) (n := 96) C dX3_exchangeSigns_93 (by decide) rfl (fun c19 => ?_) (fun c19 => ?_)
    · replace hf := (if_pos c19).symm.trans hf
      have hr := Option.some.inj hf
      subst hr
      exact U_lv [] rfl J0
    · replace hf := (if_neg c19).symm.trans hf
      refine U_aload_n (n := 97) 0 C dX3_exchangeSigns_96 rfl rfl rfl ?_
      refine gf_RX3_38 (n := 100) C dX3_exchangeSigns_97 hf rfl (fun v20 hf => ?_)
      refine U_iload_n (n := 101) 1 C dX3_exchangeSigns_100 rfl rfl ?_
      refine U_iald (n := 102) C dX3_exchangeSigns_101 hf rfl (fun v21 hf => ?_)
      refine U_bipush (n := 104) (-100 : Int32) C dX3_exchangeSigns_102 kbipush_m100 rfl ?_
      refine U_join1 (fun h23 => U g Γ 7 Q 0 0 132 [(0, .ref p0), (3, .int x3)] [] h23) hf (fun h23 hf => ?_) (fun h23 hf J25 => ?_)
      · skip
        refine U_iinc (n := 135) (v := (x3 + 1)) (lv2 := [(3, .int (x3 + 1)), (0, .ref p0)]) 1 C dX3_exchangeSigns_132 rfl rfl (by decide) rfl rfl ?_
        refine U_goto (n := 0) (tgt := 85) C dX3_exchangeSigns_135 (by decide) ?_
        exact U_lv [1, 0] rfl (ih hf J0)
      · skip
        refine U_icne (tgt := 118) (n := 107) C dX3_exchangeSigns_104 (by decide) rfl (fun c22 => ?_) (fun c22 => ?_)
        · replace hf := (if_pos c22).symm.trans hf
          refine U_aload_n (n := 108) 0 C dX3_exchangeSigns_107 rfl rfl rfl ?_
          refine gf_RX3_19 (n := 111) C dX3_exchangeSigns_108 hf rfl (fun v27 hf => ?_)
          refine U_iload_n (n := 112) 1 C dX3_exchangeSigns_111 rfl rfl ?_
          obtain ⟨h29, ev28, hf⟩ := bsome hf
          refine cv_RX3_342 (n := 115) C dX3_exchangeSigns_112 (av := [.int x3]) rfl (rc_X2_setUnknown ev28) (M_X2_setUnknown ev28) (Nat.le_of_ble_eq_true rfl) (Nat.zero_le _) (Nat.zero_le _) (Nat.le_of_ble_eq_true rfl) rfl ?_
          refine U_goto (n := 0) (tgt := 132) C dX3_exchangeSigns_115 (by decide) ?_
          have hr := Option.some.inj hf
          subst hr
          exact U_lv [0, 1] rfl J25
        · replace hf := (if_neg c22).symm.trans hf
          refine U_aload_n (n := 119) 0 C dX3_exchangeSigns_118 rfl rfl rfl ?_
          refine gf_RX3_19 (n := 122) C dX3_exchangeSigns_119 hf rfl (fun v30 hf => ?_)
          refine U_iload_n (n := 123) 1 C dX3_exchangeSigns_122 rfl rfl ?_
          refine U_aload_n (n := 124) 0 C dX3_exchangeSigns_123 rfl rfl rfl ?_
          refine gf_RX3_38 (n := 127) C dX3_exchangeSigns_124 hf rfl (fun v31 hf => ?_)
          refine U_iload_n (n := 128) 1 C dX3_exchangeSigns_127 rfl rfl ?_
          refine U_iald (n := 129) C dX3_exchangeSigns_128 hf rfl (fun v32 hf => ?_)
          obtain ⟨h34, ev33, hf⟩ := bsome hf
          refine cv_RX3_339 (n := 132) C dX3_exchangeSigns_129 (av := [.int x3, .int v32]) rfl (rc_X2_setGiven ev33) (M_X2_setGiven ev33) (Nat.le_of_ble_eq_true rfl) (Nat.zero_le _) (Nat.zero_le _) (Nat.le_of_ble_eq_true rfl) rfl ?_
          have hr := Option.some.inj hf
          subst hr
          exact U_lv [0, 1] rfl J25
theorem rc_X3_exchangeSigns {o : Nat} {a1 : Int32} {a2 : Int32} {h : Hp} {z} (hf : f_X3_exchangeSigns o a1 a2 h = some z) : rc 3 h o = some () := by
  unfold f_X3_exchangeSigns at hf
  exact (bsome hf).choose_spec.1
set_option maxHeartbeats 2000000 in
set_option maxRecDepth 20000 in
theorem M_X3_exchangeSigns {g : GT} {o : Nat} {a1 : Int32} {a2 : Int32} {h : Hp} {h2 : Hp} (hf : f_X3_exchangeSigns o a1 a2 h = some h2) : CM g yX3_exchangeSigns cX3_exchangeSigns 7 none 9 0 0 [.ref o, .int a1, .int a2] h (.inr none) h2 := by
  refine CM_of rfl (fun _ => Nat.le_of_ble_eq_true rfl) (fun Γ C hn0 => ?_)
  have C : Cx g Γ cX3_exchangeSigns RX3 "exchangeSigns" 7 none 9 0 0 := C
  generalize hQ : Qe g Γ (.inr none) h2 0 0 = Q
  show U g Γ 7 Q 0 0 0 [(0, .ref o), (1, .int a1), (2, .int a2)] [] h
  unfold f_X3_exchangeSigns at hf
  replace hf := (bsome hf).choose_spec.2
  refine U_iconst (n := 1) (0 : Int32) C dX3_exchangeSigns_0 kiconst_0 rfl ?_
  refine U_istore_n (n := 2) (lv2 := [(3, .int (0 : Int32)), (0, .ref o), (1, .int a1), (2, .int a2)]) C dX3_exchangeSigns_1 (by decide) rfl rfl ?_
  refine U_join1 (fun h16 => U g Γ 7 Q 0 0 83 [(0, .ref o)] [] h16) hf (fun h16 hf => ?_) (fun h16 hf J => U_lv [1, 2, 3, 0] rfl (L_X3_exchangeSigns_2 C hf J))
  refine U_iconst (n := 84) (0 : Int32) C dX3_exchangeSigns_83 kiconst_0 rfl ?_
  refine U_istore_n (n := 85) (lv2 := [(3, .int (0 : Int32)), (0, .ref o)]) C dX3_exchangeSigns_84 (by decide) rfl rfl ?_
  refine U_join1 (fun h35 => U g Γ 7 Q 0 0 138 [] [] h35) hf (fun h35 hf => ?_) (fun h35 hf J => U_lv [1, 0] rfl (L_X3_exchangeSigns_85 C hf J))
  have hr := (Option.some.inj hf)
  subst hr
  subst hQ
  exact U_vret C dX3_exchangeSigns_138 (Nat.le_refl 0) (Nat.le_refl 0)
def f_X3_exchangeCoordinates (o : Nat) (a1 : Int32) (a2 : Int32) (h : Hp) : Option Hp :=
  (rc 3 h o).bind fun _ =>
  (fR 3 1 h o).bind fun v1 =>
  (fR 2 8 h v1).bind fun v2 =>
  (aI h v2 a1).bind fun v3 =>
  (fR 3 1 h o).bind fun v4 =>
  (fR 2 9 h v4).bind fun v5 =>
  (aI h v5 a1).bind fun v6 =>
  (fR 3 1 h o).bind fun v7 =>
  (fR 2 8 h v7).bind fun v8 =>
  (fR 3 1 h o).bind fun v9 =>
  (fR 2 8 h v9).bind fun v10 =>
  (aI h v10 a2).bind fun v11 =>
  (wI h v8 a1 v11).bind fun h12 =>
  (fR 3 1 h12 o).bind fun v13 =>
  (fR 2 9 h12 v13).bind fun v14 =>
  (fR 3 1 h12 o).bind fun v15 =>
  (fR 2 9 h12 v15).bind fun v16 =>
  (aI h12 v16 a2).bind fun v17 =>
  (wI h12 v14 a1 v17).bind fun h18 =>
  (fR 3 1 h18 o).bind fun v19 =>
  (fR 2 8 h18 v19).bind fun v20 =>
  (wI h18 v20 a2 v3).bind fun h21 =>
  (fR 3 1 h21 o).bind fun v22 =>
  (fR 2 9 h21 v22).bind fun v23 =>
  (wI h21 v23 a2 v6).bind fun h24 =>
  some (h24)
theorem rc_X3_exchangeCoordinates {o : Nat} {a1 : Int32} {a2 : Int32} {h : Hp} {z} (hf : f_X3_exchangeCoordinates o a1 a2 h = some z) : rc 3 h o = some () := by
  unfold f_X3_exchangeCoordinates at hf
  exact (bsome hf).choose_spec.1
set_option maxHeartbeats 2000000 in
set_option maxRecDepth 20000 in
theorem M_X3_exchangeCoordinates {g : GT} {o : Nat} {a1 : Int32} {a2 : Int32} {h : Hp} {h2 : Hp} (hf : f_X3_exchangeCoordinates o a1 a2 h = some h2) : CM g yX3_exchangeCoordinates cX3_exchangeCoordinates 5 none 6 0 0 [.ref o, .int a1, .int a2] h (.inr none) h2 := by
  refine CM_of rfl (fun _ => Nat.le_of_ble_eq_true rfl) (fun Γ C hn0 => ?_)
  have C : Cx g Γ cX3_exchangeCoordinates RX3 "exchangeCoordinates" 5 none 6 0 0 := C
  generalize hQ : Qe g Γ (.inr none) h2 0 0 = Q
  show U g Γ 5 Q 0 0 0 [(0, .ref o), (1, .int a1), (2, .int a2)] [] h
  unfold f_X3_exchangeCoordinates at hf
  replace hf := (bsome hf).choose_spec.2
  refine U_aload_n (n := 1) 0 C dX3_exchangeCoordinates_0 rfl rfl rfl ?_
  refine gf_RX3_19 (n := 4) C dX3_exchangeCoordinates_1 hf rfl (fun v1 hf => ?_)
  refine gf_RX3_216 (n := 7) C dX3_exchangeCoordinates_4 hf rfl (fun v2 hf => ?_)
  refine U_iload_n (n := 8) 1 C dX3_exchangeCoordinates_7 rfl rfl ?_
  refine U_iald (n := 9) C dX3_exchangeCoordinates_8 hf rfl (fun v3 hf => ?_)
  refine U_istore_n (n := 10) (lv2 := [(3, .int v3), (0, .ref o), (1, .int a1), (2, .int a2)]) C dX3_exchangeCoordinates_9 (by decide) rfl rfl ?_
  refine U_aload_n (n := 11) 1 C dX3_exchangeCoordinates_10 rfl rfl rfl ?_
  refine gf_RX3_19 (n := 14) C dX3_exchangeCoordinates_11 hf rfl (fun v4 hf => ?_)
  refine gf_RX3_219 (n := 17) C dX3_exchangeCoordinates_14 hf rfl (fun v5 hf => ?_)
  refine U_iload_n (n := 18) 2 C dX3_exchangeCoordinates_17 rfl rfl ?_
  refine U_iald (n := 19) C dX3_exchangeCoordinates_18 hf rfl (fun v6 hf => ?_)
  refine U_istore (n := 21) (lv2 := [(4, .int v6), (3, .int v3), (0, .ref o), (1, .int a1), (2, .int a2)]) C dX3_exchangeCoordinates_19 (by decide) rfl rfl ?_
  refine U_aload_n (n := 22) 2 C dX3_exchangeCoordinates_21 rfl rfl rfl ?_
  refine gf_RX3_19 (n := 25) C dX3_exchangeCoordinates_22 hf rfl (fun v7 hf => ?_)
  refine gf_RX3_216 (n := 28) C dX3_exchangeCoordinates_25 hf rfl (fun v8 hf => ?_)
  refine U_iload_n (n := 29) 3 C dX3_exchangeCoordinates_28 rfl rfl ?_
  refine U_aload_n (n := 30) 2 C dX3_exchangeCoordinates_29 rfl rfl rfl ?_
  refine gf_RX3_19 (n := 33) C dX3_exchangeCoordinates_30 hf rfl (fun v9 hf => ?_)
  refine gf_RX3_216 (n := 36) C dX3_exchangeCoordinates_33 hf rfl (fun v10 hf => ?_)
  refine U_iload_n (n := 37) 4 C dX3_exchangeCoordinates_36 rfl rfl ?_
  refine U_iald (n := 38) C dX3_exchangeCoordinates_37 hf rfl (fun v11 hf => ?_)
  refine U_iast (n := 39) C dX3_exchangeCoordinates_38 hf rfl (fun h12 hf => ?_)
  refine U_aload_n (n := 40) 2 C dX3_exchangeCoordinates_39 rfl rfl rfl ?_
  refine gf_RX3_19 (n := 43) C dX3_exchangeCoordinates_40 hf rfl (fun v13 hf => ?_)
  refine gf_RX3_219 (n := 46) C dX3_exchangeCoordinates_43 hf rfl (fun v14 hf => ?_)
  refine U_iload_n (n := 47) 3 C dX3_exchangeCoordinates_46 rfl rfl ?_
  refine U_aload_n (n := 48) 2 C dX3_exchangeCoordinates_47 rfl rfl rfl ?_
  refine gf_RX3_19 (n := 51) C dX3_exchangeCoordinates_48 hf rfl (fun v15 hf => ?_)
  refine gf_RX3_219 (n := 54) C dX3_exchangeCoordinates_51 hf rfl (fun v16 hf => ?_)
  refine U_iload_n (n := 55) 4 C dX3_exchangeCoordinates_54 rfl rfl ?_
  refine U_iald (n := 56) C dX3_exchangeCoordinates_55 hf rfl (fun v17 hf => ?_)
  refine U_iast (n := 57) C dX3_exchangeCoordinates_56 hf rfl (fun h18 hf => ?_)
  refine U_aload_n (n := 58) 2 C dX3_exchangeCoordinates_57 rfl rfl rfl ?_
  refine gf_RX3_19 (n := 61) C dX3_exchangeCoordinates_58 hf rfl (fun v19 hf => ?_)
  refine gf_RX3_216 (n := 64) C dX3_exchangeCoordinates_61 hf rfl (fun v20 hf => ?_)
  refine U_iload_n (n := 65) 4 C dX3_exchangeCoordinates_64 rfl rfl ?_
  refine U_iload_n (n := 66) 1 C dX3_exchangeCoordinates_65 rfl rfl ?_
  refine U_iast (n := 67) C dX3_exchangeCoordinates_66 hf rfl (fun h21 hf => ?_)
  refine U_aload_n (n := 68) 2 C dX3_exchangeCoordinates_67 rfl rfl rfl ?_
  refine gf_RX3_19 (n := 71) C dX3_exchangeCoordinates_68 hf rfl (fun v22 hf => ?_)
  refine gf_RX3_219 (n := 74) C dX3_exchangeCoordinates_71 hf rfl (fun v23 hf => ?_)
  refine U_iload_n (n := 75) 4 C dX3_exchangeCoordinates_74 rfl rfl ?_
  refine U_iload (n := 77) 0 C dX3_exchangeCoordinates_75 rfl rfl ?_
  refine U_iast (n := 78) C dX3_exchangeCoordinates_77 hf rfl (fun h24 hf => ?_)
  have hr := (Option.some.inj hf)
  subst hr
  subst hQ
  exact U_vret C dX3_exchangeCoordinates_78 (Nat.le_refl 0) (Nat.le_refl 0)
def f_X3_exchange (o : Nat) (a1 : Int32) (a2 : Int32) (h : Hp) : Option ((Nat ⊕ Int32) × Hp) :=
  (rc 3 h o).bind fun _ =>
  bindT (f_X3_requirePoint o a1 h) (fun kv1 => some ((.inl kv1, h))) fun v1 =>
  bindT (f_X3_requirePoint o a2 h) (fun kv2 => some ((.inl kv2, h))) fun v2 =>
  if a1 = a2 then (
    some ((.inl 0, h))
  ) else (
    (f_X3_save o h).bind fun h5 =>
    (fR 3 1 h5 o).bind fun v6 =>
    bind2 (f_X2_forgetDerived v6 h5) fun v7 h8 =>
    (f_X3_exchangeSigns o a1 a2 h8).bind fun h10 =>
    (f_X3_exchangeCoordinates o a1 a2 h10).bind fun h12 =>
    (fR 3 1 h12 o).bind fun v13 =>
    (fR 3 0 h12 o).bind fun v14 =>
    (fI 0 1 h12 v14).bind fun v15 =>
    (f_X2_countKind v13 (1 : Int32) v15 h12).bind fun v16 =>
    some ((.inr v16, h12))
  )
theorem rc_X3_exchange {o : Nat} {a1 : Int32} {a2 : Int32} {h : Hp} {z} (hf : f_X3_exchange o a1 a2 h = some z) : rc 3 h o = some () := by
  unfold f_X3_exchange at hf
  exact (bsome hf).choose_spec.1
set_option maxHeartbeats 2000000 in
set_option maxRecDepth 20000 in
theorem M_X3_exchange {g : GT} {o : Nat} {a1 : Int32} {a2 : Int32} {h : Hp} {r : (Nat ⊕ Int32)} {h2 : Hp} (hf : f_X3_exchange o a1 a2 h = some (r, h2)) : CM g yX3_exchange cX3_exchange 3 (some .int) 10 0 0 [.ref o, .int a1, .int a2] h (rI r) h2 := by
  refine CM_of rfl (fun _ => Nat.le_of_ble_eq_true rfl) (fun Γ C hn0 => ?_)
  have C : Cx g Γ cX3_exchange RX3 "exchange" 3 (some .int) 10 (0 + er (rI r)) (0 + 6 * er (rI r)) := C
  generalize hQ : Qe g Γ (rI r) h2 0 0 = Q
  show U g Γ 3 Q 0 0 0 [(0, .ref o), (1, .int a1), (2, .int a2)] [] h
  unfold f_X3_exchange at hf
  replace hf := (bsome hf).choose_spec.2
  refine U_aload_n (n := 1) 0 C dX3_exchange_0 rfl rfl rfl ?_
  refine U_iload_n (n := 2) 1 C dX3_exchange_1 rfl rfl ?_
  rcases bsomeT hf with ⟨kv1, ev1, hf⟩ | ⟨v1, ev1, hf⟩
  · skip
    obtain ⟨hr1, hr2⟩ := Prod.mk.inj (Option.some.inj hf)
    subst hr1; subst hr2
    subst hQ
    exact xv_RX3_80 kv1 C dX3_exchange_2 (av := [.int a1]) rfl (rc_X3_requirePoint ev1) (M_X3_requirePoint ev1) (Nat.le_of_ble_eq_true rfl) (Nat.le_of_ble_eq_true rfl)
  refine cv_RX3_80 (n := 5) C dX3_exchange_2 (av := [.int a1]) rfl (rc_X3_requirePoint ev1) (M_X3_requirePoint ev1) (Nat.le_of_ble_eq_true rfl) (Nat.zero_le _) (Nat.zero_le _) (Nat.le_of_ble_eq_true rfl) rfl ?_
  refine U_aload_n (n := 6) 0 C dX3_exchange_5 rfl rfl rfl ?_
  refine U_iload_n (n := 7) 2 C dX3_exchange_6 rfl rfl ?_
  rcases bsomeT hf with ⟨kv2, ev2, hf⟩ | ⟨v2, ev2, hf⟩
  · skip
    obtain ⟨hr1, hr2⟩ := Prod.mk.inj (Option.some.inj hf)
    subst hr1; subst hr2
    subst hQ
    exact xv_RX3_80 kv2 C dX3_exchange_7 (av := [.int a2]) rfl (rc_X3_requirePoint ev2) (M_X3_requirePoint ev2) (Nat.le_of_ble_eq_true rfl) (Nat.le_of_ble_eq_true rfl)
  refine cv_RX3_80 (n := 10) C dX3_exchange_7 (av := [.int a2]) rfl (rc_X3_requirePoint ev2) (M_X3_requirePoint ev2) (Nat.le_of_ble_eq_true rfl) (Nat.zero_le _) (Nat.zero_le _) (Nat.le_of_ble_eq_true rfl) rfl ?_
  refine U_iload_n (n := 11) 1 C dX3_exchange_10 rfl rfl ?_
  refine U_iload_n (n := 12) 2 C dX3_exchange_11 rfl rfl ?_
  refine U_icne (tgt := 25) (n := 15) C dX3_exchange_12 (by decide) rfl (fun c3 => ?_) (fun c3 => ?_)
  · replace hf := (if_pos c3).symm.trans hf
    obtain ⟨hr1, hr2⟩ := Prod.mk.inj (Option.some.inj hf)
    subst hr1; subst hr2
    subst hQ
    exact U_throw 0 C xown_RX3 rfl xfit_0 xcl_0 xin_0 xsr_132 xat_0 xgood_0 dX3_exchange_15 dX3_exchange_18 dX3_exchange_19 dX3_exchange_21 dX3_exchange_24 (Nat.le_of_ble_eq_true rfl) (Nat.le_refl _) (Nat.le_refl _) rfl rfl
  · replace hf := (if_neg c3).symm.trans hf
    refine U_aload_n (n := 26) 0 C dX3_exchange_25 rfl rfl rfl ?_
    obtain ⟨h5, ev4, hf⟩ := bsome hf
    refine cv_RX3_74 (n := 29) C dX3_exchange_26 (av := []) rfl (rc_X3_save ev4) (M_X3_save ev4) (Nat.le_of_ble_eq_true rfl) (Nat.zero_le _) (Nat.zero_le _) (Nat.le_of_ble_eq_true rfl) rfl ?_
    refine U_aload_n (n := 30) 0 C dX3_exchange_29 rfl rfl rfl ?_
    refine gf_RX3_19 (n := 33) C dX3_exchange_30 hf rfl (fun v6 hf => ?_)
    obtain ⟨v7, h8, ev7, hf⟩ := bsome2 hf
    refine cv_RX3_115 (n := 36) C dX3_exchange_33 (av := []) rfl (rc_X2_forgetDerived ev7) (M_X2_forgetDerived ev7) (Nat.le_of_ble_eq_true rfl) (Nat.zero_le _) (Nat.zero_le _) (Nat.le_of_ble_eq_true rfl) rfl ?_
    refine U_pop (n := 37) C dX3_exchange_36 rfl rfl ?_
    refine U_aload_n (n := 38) 0 C dX3_exchange_37 rfl rfl rfl ?_
    refine U_iload_n (n := 39) 1 C dX3_exchange_38 rfl rfl ?_
    refine U_iload_n (n := 40) 2 C dX3_exchange_39 rfl rfl ?_
    obtain ⟨h10, ev9, hf⟩ := bsome hf
    refine cv_RX3_134 (n := 43) C dX3_exchange_40 (av := [.int a1, .int a2]) rfl (rc_X3_exchangeSigns ev9) (M_X3_exchangeSigns ev9) (Nat.le_of_ble_eq_true rfl) (Nat.zero_le _) (Nat.zero_le _) (Nat.le_of_ble_eq_true rfl) rfl ?_
    refine U_aload_n (n := 44) 0 C dX3_exchange_43 rfl rfl rfl ?_
    refine U_iload_n (n := 45) 1 C dX3_exchange_44 rfl rfl ?_
    refine U_iload_n (n := 46) 2 C dX3_exchange_45 rfl rfl ?_
    obtain ⟨h12, ev11, hf⟩ := bsome hf
    refine cv_RX3_138 (n := 49) C dX3_exchange_46 (av := [.int a1, .int a2]) rfl (rc_X3_exchangeCoordinates ev11) (M_X3_exchangeCoordinates ev11) (Nat.le_of_ble_eq_true rfl) (Nat.zero_le _) (Nat.zero_le _) (Nat.le_of_ble_eq_true rfl) rfl ?_
    refine U_aload_n (n := 50) 0 C dX3_exchange_49 rfl rfl rfl ?_
    refine gf_RX3_19 (n := 53) C dX3_exchange_50 hf rfl (fun v13 hf => ?_)
    refine U_iconst (n := 54) (1 : Int32) C dX3_exchange_53 kiconst_1 rfl ?_
    refine U_aload_n (n := 55) 0 C dX3_exchange_54 rfl rfl rfl ?_
    refine gf_RX3_10 (n := 58) C dX3_exchange_55 hf rfl (fun v14 hf => ?_)
    refine gf_RX3_77 (n := 61) C dX3_exchange_58 hf rfl (fun v15 hf => ?_)
    obtain ⟨v16, ev16, hf⟩ := bsome hf
    refine cv_RX3_141 (n := 64) C dX3_exchange_61 (av := [.int (1 : Int32), .int v15]) rfl (rc_X2_countKind ev16) (M_X2_countKind ev16) (Nat.le_of_ble_eq_true rfl) (Nat.zero_le _) (Nat.zero_le _) (Nat.le_of_ble_eq_true rfl) rfl ?_
    obtain ⟨hr1, hr2⟩ := Prod.mk.inj (Option.some.inj hf)
    subst hr1; subst hr2
    subst hQ
    exact U_iret C dX3_exchange_64 (Nat.le_refl 0) (Nat.le_refl 0)
def f_X3_sign (o : Nat) (a1 : Int32) (a2 : Int32) (a3 : Int32) (h : Hp) : Option (Nat ⊕ Int32) :=
  (rc 3 h o).bind fun _ =>
  bindT (f_X3_requirePoint o a1 h) (fun kv1 => some (.inl kv1)) fun v1 =>
  bindT (f_X3_requirePoint o a2 h) (fun kv2 => some (.inl kv2)) fun v2 =>
  bindT (f_X3_requirePoint o a3 h) (fun kv3 => some (.inl kv3)) fun v3 =>
  (f_X3_orderedSign o a1 a2 a3 h).bind fun v4 =>
  some (.inr v4)
theorem rc_X3_sign {o : Nat} {a1 : Int32} {a2 : Int32} {a3 : Int32} {h : Hp} {z} (hf : f_X3_sign o a1 a2 a3 h = some z) : rc 3 h o = some () := by
  unfold f_X3_sign at hf
  exact (bsome hf).choose_spec.1
set_option maxHeartbeats 2000000 in
set_option maxRecDepth 20000 in
theorem M_X3_sign {g : GT} {o : Nat} {a1 : Int32} {a2 : Int32} {a3 : Int32} {h : Hp} {r : (Nat ⊕ Int32)} (hf : f_X3_sign o a1 a2 a3 h = some r) : CM g yX3_sign cX3_sign 4 (some .int) 9 0 0 [.ref o, .int a1, .int a2, .int a3] h (rI r) h := by
  refine CM_of rfl (fun _ => Nat.le_of_ble_eq_true rfl) (fun Γ C hn0 => ?_)
  have C : Cx g Γ cX3_sign RX3 "sign" 4 (some .int) 9 (0 + er (rI r)) (0 + 6 * er (rI r)) := C
  generalize hQ : Qe g Γ (rI r) h 0 0 = Q
  show U g Γ 4 Q 0 0 0 [(0, .ref o), (1, .int a1), (2, .int a2), (3, .int a3)] [] h
  unfold f_X3_sign at hf
  replace hf := (bsome hf).choose_spec.2
  refine U_aload_n (n := 1) 0 C dX3_sign_0 rfl rfl rfl ?_
  refine U_iload_n (n := 2) 1 C dX3_sign_1 rfl rfl ?_
  rcases bsomeT hf with ⟨kv1, ev1, hf⟩ | ⟨v1, ev1, hf⟩
  · skip
    have hr := (Option.some.inj hf)
    subst hr
    subst hQ
    exact xv_RX3_80 kv1 C dX3_sign_2 (av := [.int a1]) rfl (rc_X3_requirePoint ev1) (M_X3_requirePoint ev1) (Nat.le_of_ble_eq_true rfl) (Nat.le_of_ble_eq_true rfl)
  refine cv_RX3_80 (n := 5) C dX3_sign_2 (av := [.int a1]) rfl (rc_X3_requirePoint ev1) (M_X3_requirePoint ev1) (Nat.le_of_ble_eq_true rfl) (Nat.zero_le _) (Nat.zero_le _) (Nat.le_of_ble_eq_true rfl) rfl ?_
  refine U_aload_n (n := 6) 0 C dX3_sign_5 rfl rfl rfl ?_
  refine U_iload_n (n := 7) 2 C dX3_sign_6 rfl rfl ?_
  rcases bsomeT hf with ⟨kv2, ev2, hf⟩ | ⟨v2, ev2, hf⟩
  · skip
    have hr := (Option.some.inj hf)
    subst hr
    subst hQ
    exact xv_RX3_80 kv2 C dX3_sign_7 (av := [.int a2]) rfl (rc_X3_requirePoint ev2) (M_X3_requirePoint ev2) (Nat.le_of_ble_eq_true rfl) (Nat.le_of_ble_eq_true rfl)
  refine cv_RX3_80 (n := 10) C dX3_sign_7 (av := [.int a2]) rfl (rc_X3_requirePoint ev2) (M_X3_requirePoint ev2) (Nat.le_of_ble_eq_true rfl) (Nat.zero_le _) (Nat.zero_le _) (Nat.le_of_ble_eq_true rfl) rfl ?_
  refine U_aload_n (n := 11) 0 C dX3_sign_10 rfl rfl rfl ?_
  refine U_iload_n (n := 12) 3 C dX3_sign_11 rfl rfl ?_
  rcases bsomeT hf with ⟨kv3, ev3, hf⟩ | ⟨v3, ev3, hf⟩
  · skip
    have hr := (Option.some.inj hf)
    subst hr
    subst hQ
    exact xv_RX3_80 kv3 C dX3_sign_12 (av := [.int a3]) rfl (rc_X3_requirePoint ev3) (M_X3_requirePoint ev3) (Nat.le_of_ble_eq_true rfl) (Nat.le_of_ble_eq_true rfl)
  refine cv_RX3_80 (n := 15) C dX3_sign_12 (av := [.int a3]) rfl (rc_X3_requirePoint ev3) (M_X3_requirePoint ev3) (Nat.le_of_ble_eq_true rfl) (Nat.zero_le _) (Nat.zero_le _) (Nat.le_of_ble_eq_true rfl) rfl ?_
  refine U_aload_n (n := 16) 0 C dX3_sign_15 rfl rfl rfl ?_
  refine U_iload_n (n := 17) 1 C dX3_sign_16 rfl rfl ?_
  refine U_iload_n (n := 18) 2 C dX3_sign_17 rfl rfl ?_
  refine U_iload_n (n := 19) 3 C dX3_sign_18 rfl rfl ?_
  obtain ⟨v4, ev4, hf⟩ := bsome hf
  refine cv_RX3_89 (n := 22) C dX3_sign_19 (av := [.int a1, .int a2, .int a3]) rfl (rc_X3_orderedSign ev4) (M_X3_orderedSign ev4) (Nat.le_of_ble_eq_true rfl) (Nat.zero_le _) (Nat.zero_le _) (Nat.le_of_ble_eq_true rfl) rfl ?_
  have hr := (Option.some.inj hf)
  subst hr
  subst hQ
  exact U_iret C dX3_sign_22 (Nat.le_refl 0) (Nat.le_refl 0)
def f_X3_requireTriple (o : Nat) (a1 : Int32) (h : Hp) : Option (Nat ⊕ Unit) :=
  (rc 3 h o).bind fun _ =>
  if a1 < 0 then (
    some (.inl 1)
  ) else (
    (fR 3 0 h o).bind fun v2 =>
    (fI 0 1 h v2).bind fun v3 =>
    if a1 < v3 then (
      some (.inr ())
    ) else (
      some (.inl 1)
    )
  )
theorem rc_X3_requireTriple {o : Nat} {a1 : Int32} {h : Hp} {z} (hf : f_X3_requireTriple o a1 h = some z) : rc 3 h o = some () := by
  unfold f_X3_requireTriple at hf
  exact (bsome hf).choose_spec.1
set_option maxHeartbeats 2000000 in
set_option maxRecDepth 20000 in
theorem M_X3_requireTriple {g : GT} {o : Nat} {a1 : Int32} {h : Hp} {r : (Nat ⊕ Unit)} (hf : f_X3_requireTriple o a1 h = some r) : CM g yX3_requireTriple cX3_requireTriple 2 none 6 0 0 [.ref o, .int a1] h (rV r) h := by
  refine CM_of rfl (fun _ => Nat.le_of_ble_eq_true rfl) (fun Γ C hn0 => ?_)
  have C : Cx g Γ cX3_requireTriple RX3 "requireTriple" 2 none 6 (0 + er (rV r)) (0 + 6 * er (rV r)) := C
  generalize hQ : Qe g Γ (rV r) h 0 0 = Q
  show U g Γ 2 Q 0 0 0 [(0, .ref o), (1, .int a1)] [] h
  unfold f_X3_requireTriple at hf
  replace hf := (bsome hf).choose_spec.2
  refine U_iload_n (n := 1) 1 C dX3_requireTriple_0 rfl rfl ?_
  refine U_iflt (tgt := 15) (n := 4) C dX3_requireTriple_1 (by decide) rfl (fun c1 => ?_) (fun c1 => ?_)
  · replace hf := (if_pos c1).symm.trans hf
    have hr := (Option.some.inj hf)
    subst hr
    subst hQ
    exact U_throwW 1 C xown_RX3 rfl xfit_1 xcl_1 xin_1 xsr_326 xat_1 xgood_1 dX3_requireTriple_15 dX3_requireTriple_18 dX3_requireTriple_19 dX3_requireTriple_22 dX3_requireTriple_25 (Nat.le_of_ble_eq_true rfl) (Nat.le_refl _) (Nat.le_refl _) rfl rfl
  · replace hf := (if_neg c1).symm.trans hf
    refine U_iload_n (n := 5) 1 C dX3_requireTriple_4 rfl rfl ?_
    refine U_aload_n (n := 6) 0 C dX3_requireTriple_5 rfl rfl rfl ?_
    refine gf_RX3_10 (n := 9) C dX3_requireTriple_6 hf rfl (fun v2 hf => ?_)
    refine gf_RX3_77 (n := 12) C dX3_requireTriple_9 hf rfl (fun v3 hf => ?_)
    refine U_iclt (tgt := 26) (n := 15) C dX3_requireTriple_12 (by decide) rfl (fun c4 => ?_) (fun c4 => ?_)
    · replace hf := (if_pos c4).symm.trans hf
      have hr := (Option.some.inj hf)
      subst hr
      subst hQ
      exact U_vret C dX3_requireTriple_26 (Nat.le_refl 0) (Nat.le_refl 0)
    · replace hf := (if_neg c4).symm.trans hf
      have hr := (Option.some.inj hf)
      subst hr
      subst hQ
      exact U_throwW 1 C xown_RX3 rfl xfit_1 xcl_1 xin_1 xsr_326 xat_1 xgood_1 dX3_requireTriple_15 dX3_requireTriple_18 dX3_requireTriple_19 dX3_requireTriple_22 dX3_requireTriple_25 (Nat.le_of_ble_eq_true rfl) (Nat.le_refl _) (Nat.le_refl _) rfl rfl
