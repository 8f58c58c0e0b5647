def l_J7_fill_53178_5 (p0 : Nat) (p1 : Int32) (p3 : Int32) : Nat → Int32 → Hp → Option Hp
  | 0, _, _ => none
  | fuel + 1, x2, h =>
    if p3 ≤ x2 then (
      some h
    ) else (
      (wI h p0 x2 p1).bind fun h3 =>
      l_J7_fill_53178_5 p0 p1 p3 fuel (x2 + 1) h3
    )
def f_J7_fill_53178 (a0 : Nat) (a1 : Int32) (h : Hp) : Option Hp :=
  (aN h a0).bind fun v1 =>
  (l_J7_fill_53178_5 a0 a1 v1 FU (0 : Int32) h).bind fun h4 =>
  some (h4)
set_option maxHeartbeats 2000000 in
set_option maxRecDepth 20000 in
theorem L_J7_fill_53178_5 {g : GT} {Γ : CT} {Q : State → Prop} {mc ms : Nat} (C : Cx g Γ cJ7_fill_53178 RJ7 "fill" 4 none 6 mc ms) {p0 : Nat} {p1 : Int32} {p3 : Int32} : ∀ {fuel : Nat} {x2 : Int32} {h : Hp} {hy : Hp}, l_J7_fill_53178_5 p0 p1 p3 fuel x2 h = some hy → U g Γ 4 Q 0 0 20 [] [] hy → U g Γ 4 Q 0 0 5 [(0, .ref p0), (1, .int p1), (2, .int x2), (3, .int p3)] [] h := by
  intro fuel
  induction fuel with
  | zero =>
    intro x2 h hy hf J0
    simp only [l_J7_fill_53178_5, reduceCtorEq] at hf
  | succ fuel ih =>
    intro x2 h hy hf J0
    rw [l_J7_fill_53178_5] at hf
    refine U_iload_n (n := 6) 2 C dJ7_fill_53178_5 rfl rfl ?_
    refine U_iload_n (n := 7) 3 C dJ7_fill_53178_6 rfl rfl ?_
    refine U_icge (tgt := 20) (n := 10) C dJ7_fill_53178_7 (by decide) rfl (fun c2 => ?_) (fun c2 => ?_)
    · replace hf := (if_pos c2).symm.trans hf
      have hr := Option.some.inj hf
      subst hr
      exact U_lv [] rfl J0
    · replace hf := (if_neg c2).symm.trans hf
      refine U_aload_n (n := 11) 0 C dJ7_fill_53178_10 rfl rfl rfl ?_
      refine U_iload_n (n := 12) 2 C dJ7_fill_53178_11 rfl rfl ?_
      refine U_iload_n (n := 13) 1 C dJ7_fill_53178_12 rfl rfl ?_
      refine U_iast (n := 14) C dJ7_fill_53178_13 hf rfl (fun h3 hf => ?_)
      refine U_iinc (n := 17) (v := (x2 + 1)) (lv2 := [(2, .int (x2 + 1)), (0, .ref p0), (1, .int p1), (3, .int p3)]) 2 C dJ7_fill_53178_14 rfl rfl (by decide) rfl rfl ?_
      refine U_goto (n := 0) (tgt := 5) C dJ7_fill_53178_17 (by decide) ?_
      exact U_lv [1, 2, 0, 3] rfl (ih hf J0)
set_option maxHeartbeats 2000000 in
set_option maxRecDepth 20000 in
theorem M_J7_fill_53178 {g : GT} {a0 : Nat} {a1 : Int32} {h : Hp} {h2 : Hp} (hf : f_J7_fill_53178 a0 a1 h = some h2) : CM g yJ7_fill_53178 cJ7_fill_53178 4 none 6 0 0 [.ref a0, .int a1] h (.inr none) h2 := by
  refine CM_of rfl (fun _ => Nat.le_of_ble_eq_true rfl) (fun Γ C hn0 => ?_)
  have C : Cx g Γ cJ7_fill_53178 RJ7 "fill" 4 none 6 0 0 := C
  generalize hQ : Qe g Γ (.inr none) h2 0 0 = Q
  show U g Γ 4 Q 0 0 0 [(0, .ref a0), (1, .int a1)] [] h
  unfold f_J7_fill_53178 at hf
  refine U_iconst (n := 1) (0 : Int32) C dJ7_fill_53178_0 kiconst_0 rfl ?_
  refine U_istore_n (n := 2) (lv2 := [(2, .int (0 : Int32)), (0, .ref a0), (1, .int a1)]) C dJ7_fill_53178_1 (by decide) rfl rfl ?_
  refine U_aload_n (n := 3) 1 C dJ7_fill_53178_2 rfl rfl rfl ?_
  refine U_alen (n := 4) C dJ7_fill_53178_3 hf rfl (fun v1 hf => ?_)
  refine U_istore_n (n := 5) (lv2 := [(3, .int v1), (2, .int (0 : Int32)), (0, .ref a0), (1, .int a1)]) C dJ7_fill_53178_4 (by decide) rfl rfl ?_
  refine U_join1 (fun h4 => U g Γ 4 Q 0 0 20 [] [] h4) hf (fun h4 hf => ?_) (fun h4 hf J => U_lv [2, 3, 1, 0] rfl (L_J7_fill_53178_5 C hf J))
  have hr := (Option.some.inj hf)
  subst hr
  subst hQ
  exact U_vret C dJ7_fill_53178_20 (Nat.le_refl 0) (Nat.le_refl 0)
def f_J6_compare_7cf53 (a0 : Int32) (a1 : Int32) : Option Int32 :=
  if a1 ≤ a0 then (
    if a0 = a1 then (
      some ((0 : Int32))
    ) else (
      some ((1 : Int32))
    )
  ) else (
    some ((-1 : Int32))
  )
set_option maxHeartbeats 2000000 in
set_option maxRecDepth 20000 in
theorem M_J6_compare_7cf53 {g : GT} {a0 : Int32} {a1 : Int32} {h : Hp} {r : Int32} (hf : f_J6_compare_7cf53 a0 a1 = some r) : CM g yJ6_compare_7cf53 cJ6_compare_7cf53 2 (some .int) 6 0 0 [.int a0, .int a1] h (.inr (some (.int r))) h := by
  refine CM_of rfl (fun _ => Nat.le_of_ble_eq_true rfl) (fun Γ C hn0 => ?_)
  have C : Cx g Γ cJ6_compare_7cf53 RJ6 "compare" 2 (some .int) 6 0 0 := C
  generalize hQ : Qe g Γ (.inr (some (.int r))) h 0 0 = Q
  show U g Γ 2 Q 0 0 0 [(0, .int a0), (1, .int a1)] [] h
  unfold f_J6_compare_7cf53 at hf
  refine U_iload_n (n := 1) 0 C dJ6_compare_7cf53_0 rfl rfl ?_
  refine U_iload_n (n := 2) 1 C dJ6_compare_7cf53_1 rfl rfl ?_
  refine U_icge (tgt := 9) (n := 5) C dJ6_compare_7cf53_2 (by decide) rfl (fun c1 => ?_) (fun c1 => ?_)
  · replace hf := (if_pos c1).symm.trans hf
    refine U_iload_n (n := 10) 0 C dJ6_compare_7cf53_9 rfl rfl ?_
    refine U_iload_n (n := 11) 1 C dJ6_compare_7cf53_10 rfl rfl ?_
    refine U_icne (tgt := 18) (n := 14) C dJ6_compare_7cf53_11 (by decide) rfl (fun c2 => ?_) (fun c2 => ?_)
    · replace hf := (if_pos c2).symm.trans hf
      refine U_iconst (n := 15) (0 : Int32) C dJ6_compare_7cf53_14 kiconst_0 rfl ?_
      refine U_goto (n := 0) (tgt := 19) C dJ6_compare_7cf53_15 (by decide) ?_
      have hr := (Option.some.inj hf)
      subst hr
      subst hQ
      exact U_iret C dJ6_compare_7cf53_19 (Nat.le_refl 0) (Nat.le_refl 0)
    · replace hf := (if_neg c2).symm.trans hf
      refine U_iconst (n := 19) (1 : Int32) C dJ6_compare_7cf53_18 kiconst_1 rfl ?_
      have hr := (Option.some.inj hf)
      subst hr
      subst hQ
      exact U_iret C dJ6_compare_7cf53_19 (Nat.le_refl 0) (Nat.le_refl 0)
  · replace hf := (if_neg c1).symm.trans hf
    refine U_iconst (n := 6) (-1 : Int32) C dJ6_compare_7cf53_5 kiconst_m1 rfl ?_
    refine U_goto (n := 0) (tgt := 19) C dJ6_compare_7cf53_6 (by decide) ?_
    have hr := (Option.some.inj hf)
    subst hr
    subst hQ
    exact U_iret C dJ6_compare_7cf53_19 (Nat.le_refl 0) (Nat.le_refl 0)
