def f_X0_init (o : Nat) (h : Hp) : Option Hp :=
  (rc 0 h o).bind fun _ =>
  (sF 0 0 (.int (0 : Int32)) h o).bind fun h1 =>
  (sF 0 1 (.int (0 : Int32)) h1 o).bind fun h2 =>
  (sF 0 2 (.int (0 : Int32)) h2 o).bind fun h3 =>
  bind2 (some ((h3).length, h3 ++ [.inl (0, (168, .inl fun _ => 0))])) fun q4 h5 =>
  (sF 0 3 (.ref q4) h5 o).bind fun h6 =>
  bind2 (some ((h6).length, h6 ++ [.inl (0, (512, .inl fun _ => 0))])) fun q7 h8 =>
  (sF 0 4 (.ref q7) h8 o).bind fun h9 =>
  bind2 (some ((h9).length, h9 ++ [.inl (0, (512, .inl fun _ => 0))])) fun q10 h11 =>
  (sF 0 5 (.ref q10) h11 o).bind fun h12 =>
  bind2 (some ((h12).length, h12 ++ [.inl (0, (1400, .inl fun _ => 0))])) fun q13 h14 =>
  (sF 0 6 (.ref q13) h14 o).bind fun h15 =>
  bind2 (some ((h15).length, h15 ++ [.inl (0, (1680, .inl fun _ => 0))])) fun q16 h17 =>
  (sF 0 7 (.ref q16) h17 o).bind fun h18 =>
  bind2 (some ((h18).length, h18 ++ [.inl (0, (840, .inl fun _ => 0))])) fun q19 h20 =>
  (sF 0 8 (.ref q19) h20 o).bind fun h21 =>
  bind2 (some ((h21).length, h21 ++ [.inl (1, (280, .inr (.inl fun _ => 0)))])) fun q22 h23 =>
  (sF 0 9 (.ref q22) h23 o).bind fun h24 =>
  some (h24)
theorem rc_X0_init {o : Nat} {h : Hp} {z} (hf : f_X0_init o h = some z) : rc 0 h o = some () := by
  unfold f_X0_init at hf
  exact (bsome hf).choose_spec.1
set_option maxHeartbeats 2000000 in
set_option maxRecDepth 20000 in
theorem M_X0_init {g : GT} {o : Nat} {h : Hp} {h2 : Hp} (hf : f_X0_init o h = some h2) : CM g yX0_init cX0_init 1 none 6 7 5392 [.ref o] h (.inr none) h2 := by
  refine CM_of rfl (fun _ => Nat.le_of_ble_eq_true rfl) (fun Γ C hn0 => ?_)
  have C : Cx g Γ cX0_init RX0 "<init>" 1 none 6 7 5392 := C
  generalize hQ : Qe g Γ (.inr none) h2 7 5392 = Q
  show U g Γ 1 Q 0 0 0 [(0, .ref o)] [] h
  unfold f_X0_init at hf
  replace hf := (bsome hf).choose_spec.2
  refine U_aload_n (n := 1) 0 C dX0_init_0 rfl rfl rfl ?_
  refine U_objInit (n := 4) C dX0_init_1 oi_RX0 oi_i oi_c (Nat.le_of_ble_eq_true rfl) rfl ?_
  refine U_aload_n (n := 5) 0 C dX0_init_4 rfl rfl rfl ?_
  refine U_iconst (n := 6) (0 : Int32) C dX0_init_5 kiconst_0 rfl ?_
  refine pf_RX0_9 (n := 9) C dX0_init_6 hf rfl (fun h1 hf => ?_)
  refine U_aload_n (n := 10) 0 C dX0_init_9 rfl rfl rfl ?_
  refine U_iconst (n := 11) (0 : Int32) C dX0_init_10 kiconst_0 rfl ?_
  refine pf_RX0_15 (n := 14) C dX0_init_11 hf rfl (fun h2 hf => ?_)
  refine U_aload_n (n := 15) 0 C dX0_init_14 rfl rfl rfl ?_
  refine U_iconst (n := 16) (0 : Int32) C dX0_init_15 kiconst_0 rfl ?_
  refine pf_RX0_18 (n := 19) C dX0_init_16 hf rfl (fun h3 hf => ?_)
  refine U_aload_n (n := 20) 0 C dX0_init_19 rfl rfl rfl ?_
  refine U_sipush (n := 23) (168 : Int32) C dX0_init_20 ksipush_168 rfl ?_
  refine U_bnew (fun k => U_newI (n := 25) (N := 168) C dX0_init_23 (by decide) (by decide) (Nat.le_of_ble_eq_true rfl) (Nat.le_of_ble_eq_true rfl) (Nat.le_of_ble_eq_true rfl) rfl k) hf (fun q4 h5 hf => ?_)
  refine pf_RX0_21 (n := 28) C dX0_init_25 rfl hf rfl (fun h6 hf => ?_)
  refine U_aload_n (n := 29) 0 C dX0_init_28 rfl rfl rfl ?_
  refine U_sipush (n := 32) (512 : Int32) C dX0_init_29 ksipush_512 rfl ?_
  refine U_bnew (fun k => U_newI (n := 34) (N := 512) C dX0_init_32 (by decide) (by decide) (Nat.le_of_ble_eq_true rfl) (Nat.le_of_ble_eq_true rfl) (Nat.le_of_ble_eq_true rfl) rfl k) hf (fun q7 h8 hf => ?_)
  refine pf_RX0_25 (n := 37) C dX0_init_34 rfl hf rfl (fun h9 hf => ?_)
  refine U_aload_n (n := 38) 0 C dX0_init_37 rfl rfl rfl ?_
  refine U_sipush (n := 41) (512 : Int32) C dX0_init_38 ksipush_512 rfl ?_
  refine U_bnew (fun k => U_newI (n := 43) (N := 512) C dX0_init_41 (by decide) (by decide) (Nat.le_of_ble_eq_true rfl) (Nat.le_of_ble_eq_true rfl) (Nat.le_of_ble_eq_true rfl) rfl k) hf (fun q10 h11 hf => ?_)
  refine pf_RX0_28 (n := 46) C dX0_init_43 rfl hf rfl (fun h12 hf => ?_)
  refine U_aload_n (n := 47) 0 C dX0_init_46 rfl rfl rfl ?_
  refine U_sipush (n := 50) (1400 : Int32) C dX0_init_47 ksipush_1400 rfl ?_
  refine U_bnew (fun k => U_newI (n := 52) (N := 1400) C dX0_init_50 (by decide) (by decide) (Nat.le_of_ble_eq_true rfl) (Nat.le_of_ble_eq_true rfl) (Nat.le_of_ble_eq_true rfl) rfl k) hf (fun q13 h14 hf => ?_)
  refine pf_RX0_31 (n := 55) C dX0_init_52 rfl hf rfl (fun h15 hf => ?_)
  refine U_aload_n (n := 56) 0 C dX0_init_55 rfl rfl rfl ?_
  refine U_sipush (n := 59) (1680 : Int32) C dX0_init_56 ksipush_1680 rfl ?_
  refine U_bnew (fun k => U_newI (n := 61) (N := 1680) C dX0_init_59 (by decide) (by decide) (Nat.le_of_ble_eq_true rfl) (Nat.le_of_ble_eq_true rfl) (Nat.le_of_ble_eq_true rfl) rfl k) hf (fun q16 h17 hf => ?_)
  refine pf_RX0_34 (n := 64) C dX0_init_61 rfl hf rfl (fun h18 hf => ?_)
  refine U_aload_n (n := 65) 0 C dX0_init_64 rfl rfl rfl ?_
  refine U_sipush (n := 68) (840 : Int32) C dX0_init_65 ksipush_840 rfl ?_
  refine U_bnew (fun k => U_newI (n := 70) (N := 840) C dX0_init_68 (by decide) (by decide) (Nat.le_of_ble_eq_true rfl) (Nat.le_of_ble_eq_true rfl) (Nat.le_of_ble_eq_true rfl) rfl k) hf (fun q19 h20 hf => ?_)
  refine pf_RX0_37 (n := 73) C dX0_init_70 rfl hf rfl (fun h21 hf => ?_)
  refine U_aload_n (n := 74) 0 C dX0_init_73 rfl rfl rfl ?_
  refine U_sipush (n := 77) (280 : Int32) C dX0_init_74 ksipush_280 rfl ?_
  refine U_bnew (fun k => U_newJ (n := 79) (N := 280) C dX0_init_77 (by decide) (by decide) (Nat.le_of_ble_eq_true rfl) (Nat.le_of_ble_eq_true rfl) (Nat.le_of_ble_eq_true rfl) rfl k) hf (fun q22 h23 hf => ?_)
  refine pf_RX0_40 (n := 82) C dX0_init_79 rfl hf rfl (fun h24 hf => ?_)
  have hr := (Option.some.inj hf)
  subst hr
  subst hQ
  exact U_vret C dX0_init_82 (Nat.le_refl _) (Nat.le_refl _)
def f_X2_init (o : Nat) (h : Hp) : Option Hp :=
  (rc 2 h o).bind fun _ =>
  (sF 2 0 (.int (0 : Int32)) h o).bind fun h1 =>
  (sF 2 1 (.int (0 : Int32)) h1 o).bind fun h2 =>
  (sF 2 2 (.int (-100 : Int32)) h2 o).bind fun h3 =>
  bind2 (some ((h3).length, h3 ++ [.inl (0, (56, .inl fun _ => 0))])) fun q4 h5 =>
  (sF 2 3 (.ref q4) h5 o).bind fun h6 =>
  bind2 (some ((h6).length, h6 ++ [.inl (0, (56, .inl fun _ => 0))])) fun q7 h8 =>
  (sF 2 4 (.ref q7) h8 o).bind fun h9 =>
  bind2 (some ((h9).length, h9 ++ [.inl (0, (56, .inl fun _ => 0))])) fun q10 h11 =>
  (sF 2 5 (.ref q10) h11 o).bind fun h12 =>
  bind2 (some ((h12).length, h12 ++ [.inl (0, (56, .inl fun _ => 0))])) fun q13 h14 =>
  (sF 2 6 (.ref q13) h14 o).bind fun h15 =>
  bind2 (some ((h15).length, h15 ++ [.inl (1, (56, .inr (.inl fun _ => 0)))])) fun q16 h17 =>
  (sF 2 7 (.ref q16) h17 o).bind fun h18 =>
  bind2 (some ((h18).length, h18 ++ [.inl (0, (8, .inl fun _ => 0))])) fun q19 h20 =>
  (sF 2 8 (.ref q19) h20 o).bind fun h21 =>
  bind2 (some ((h21).length, h21 ++ [.inl (0, (8, .inl fun _ => 0))])) fun q22 h23 =>
  (sF 2 9 (.ref q22) h23 o).bind fun h24 =>
  some (h24)
theorem rc_X2_init {o : Nat} {h : Hp} {z} (hf : f_X2_init o h = some z) : rc 2 h o = some () := by
  unfold f_X2_init at hf
  exact (bsome hf).choose_spec.1
set_option maxHeartbeats 2000000 in
set_option maxRecDepth 20000 in
theorem M_X2_init {g : GT} {o : Nat} {h : Hp} {h2 : Hp} (hf : f_X2_init o h = some h2) : CM g yX2_init cX2_init 1 none 6 7 296 [.ref o] h (.inr none) h2 := by
  refine CM_of rfl (fun _ => Nat.le_of_ble_eq_true rfl) (fun Γ C hn0 => ?_)
  have C : Cx g Γ cX2_init RX2 "<init>" 1 none 6 7 296 := C
  generalize hQ : Qe g Γ (.inr none) h2 7 296 = Q
  show U g Γ 1 Q 0 0 0 [(0, .ref o)] [] h
  unfold f_X2_init at hf
  replace hf := (bsome hf).choose_spec.2
  refine U_aload_n (n := 1) 0 C dX2_init_0 rfl rfl rfl ?_
  refine U_objInit (n := 4) C dX2_init_1 oi_RX2 oi_i oi_c (Nat.le_of_ble_eq_true rfl) rfl ?_
  refine U_aload_n (n := 5) 0 C dX2_init_4 rfl rfl rfl ?_
  refine U_iconst (n := 6) (0 : Int32) C dX2_init_5 kiconst_0 rfl ?_
  refine pf_RX2_9 (n := 9) C dX2_init_6 hf rfl (fun h1 hf => ?_)
  refine U_aload_n (n := 10) 0 C dX2_init_9 rfl rfl rfl ?_
  refine U_iconst (n := 11) (0 : Int32) C dX2_init_10 kiconst_0 rfl ?_
  refine pf_RX2_15 (n := 14) C dX2_init_11 (Or.inl rfl) hf rfl (fun h2 hf => ?_)
  refine U_aload_n (n := 15) 0 C dX2_init_14 rfl rfl rfl ?_
  refine U_bipush (n := 17) (-100 : Int32) C dX2_init_15 kbipush_m100 rfl ?_
  refine pf_RX2_19 (n := 20) C dX2_init_17 hf rfl (fun h3 hf => ?_)
  refine U_aload_n (n := 21) 0 C dX2_init_20 rfl rfl rfl ?_
  refine U_bipush (n := 23) (56 : Int32) C dX2_init_21 kbipush_56 rfl ?_
  refine U_bnew (fun k => U_newI (n := 25) (N := 56) C dX2_init_23 (by decide) (by decide) (Nat.le_of_ble_eq_true rfl) (Nat.le_of_ble_eq_true rfl) (Nat.le_of_ble_eq_true rfl) rfl k) hf (fun q4 h5 hf => ?_)
  refine pf_RX2_22 (n := 28) C dX2_init_25 rfl hf rfl (fun h6 hf => ?_)
  refine U_aload_n (n := 29) 0 C dX2_init_28 rfl rfl rfl ?_
  refine U_bipush (n := 31) (56 : Int32) C dX2_init_29 kbipush_56 rfl ?_
  refine U_bnew (fun k => U_newI (n := 33) (N := 56) C dX2_init_31 (by decide) (by decide) (Nat.le_of_ble_eq_true rfl) (Nat.le_of_ble_eq_true rfl) (Nat.le_of_ble_eq_true rfl) rfl k) hf (fun q7 h8 hf => ?_)
  refine pf_RX2_26 (n := 36) C dX2_init_33 rfl hf rfl (fun h9 hf => ?_)
  refine U_aload_n (n := 37) 0 C dX2_init_36 rfl rfl rfl ?_
  refine U_bipush (n := 39) (56 : Int32) C dX2_init_37 kbipush_56 rfl ?_
  refine U_bnew (fun k => U_newI (n := 41) (N := 56) C dX2_init_39 (by decide) (by decide) (Nat.le_of_ble_eq_true rfl) (Nat.le_of_ble_eq_true rfl) (Nat.le_of_ble_eq_true rfl) rfl k) hf (fun q10 h11 hf => ?_)
  refine pf_RX2_29 (n := 44) C dX2_init_41 rfl hf rfl (fun h12 hf => ?_)
  refine U_aload_n (n := 45) 0 C dX2_init_44 rfl rfl rfl ?_
  refine U_bipush (n := 47) (56 : Int32) C dX2_init_45 kbipush_56 rfl ?_
  refine U_bnew (fun k => U_newI (n := 49) (N := 56) C dX2_init_47 (by decide) (by decide) (Nat.le_of_ble_eq_true rfl) (Nat.le_of_ble_eq_true rfl) (Nat.le_of_ble_eq_true rfl) rfl k) hf (fun q13 h14 hf => ?_)
  refine pf_RX2_32 (n := 52) C dX2_init_49 rfl hf rfl (fun h15 hf => ?_)
  refine U_aload_n (n := 53) 0 C dX2_init_52 rfl rfl rfl ?_
  refine U_bipush (n := 55) (56 : Int32) C dX2_init_53 kbipush_56 rfl ?_
  refine U_bnew (fun k => U_newJ (n := 57) (N := 56) C dX2_init_55 (by decide) (by decide) (Nat.le_of_ble_eq_true rfl) (Nat.le_of_ble_eq_true rfl) (Nat.le_of_ble_eq_true rfl) rfl k) hf (fun q16 h17 hf => ?_)
  refine pf_RX2_35 (n := 60) C dX2_init_57 rfl hf rfl (fun h18 hf => ?_)
  refine U_aload_n (n := 61) 0 C dX2_init_60 rfl rfl rfl ?_
  refine U_bipush (n := 63) (8 : Int32) C dX2_init_61 kbipush_8 rfl ?_
  refine U_bnew (fun k => U_newI (n := 65) (N := 8) C dX2_init_63 (by decide) (by decide) (Nat.le_of_ble_eq_true rfl) (Nat.le_of_ble_eq_true rfl) (Nat.le_of_ble_eq_true rfl) rfl k) hf (fun q19 h20 hf => ?_)
  refine pf_RX2_39 (n := 68) C dX2_init_65 rfl hf rfl (fun h21 hf => ?_)
  refine U_aload_n (n := 69) 0 C dX2_init_68 rfl rfl rfl ?_
  refine U_bipush (n := 71) (8 : Int32) C dX2_init_69 kbipush_8 rfl ?_
  refine U_bnew (fun k => U_newI (n := 73) (N := 8) C dX2_init_71 (by decide) (by decide) (Nat.le_of_ble_eq_true rfl) (Nat.le_of_ble_eq_true rfl) (Nat.le_of_ble_eq_true rfl) rfl k) hf (fun q22 h23 hf => ?_)
  refine pf_RX2_42 (n := 76) C dX2_init_73 rfl hf rfl (fun h24 hf => ?_)
  have hr := (Option.some.inj hf)
  subst hr
  subst hQ
  exact U_vret C dX2_init_76 (Nat.le_refl _) (Nat.le_refl _)
def f_X1_init (o : Nat) (h : Hp) : Option Hp :=
  (rc 1 h o).bind fun _ =>
  bind2 (some ((h).length, h ++ [.inl (0, (120, .inl fun _ => 0))])) fun q1 h2 =>
  (sF 1 0 (.ref q1) h2 o).bind fun h3 =>
  (sF 1 1 (.int (0 : Int32)) h3 o).bind fun h4 =>
  bind2 (some ((h4).length, h4 ++ [.inl (0, (120, .inl fun _ => 0))])) fun q5 h6 =>
  (sF 1 2 (.ref q5) h6 o).bind fun h7 =>
  bind2 (some ((h7).length, h7 ++ [.inl (0, (360, .inl fun _ => 0))])) fun q8 h9 =>
  (sF 1 3 (.ref q8) h9 o).bind fun h10 =>
  (sF 1 4 (.int (0 : Int32)) h10 o).bind fun h11 =>
  some (h11)
theorem rc_X1_init {o : Nat} {h : Hp} {z} (hf : f_X1_init o h = some z) : rc 1 h o = some () := by
  unfold f_X1_init at hf
  exact (bsome hf).choose_spec.1
set_option maxHeartbeats 2000000 in
set_option maxRecDepth 20000 in
theorem M_X1_init {g : GT} {o : Nat} {h : Hp} {h2 : Hp} (hf : f_X1_init o h = some h2) : CM g yX1_init cX1_init 1 none 6 3 600 [.ref o] h (.inr none) h2 := by
  refine CM_of rfl (fun _ => Nat.le_of_ble_eq_true rfl) (fun Γ C hn0 => ?_)
  have C : Cx g Γ cX1_init RX1 "<init>" 1 none 6 3 600 := C
  generalize hQ : Qe g Γ (.inr none) h2 3 600 = Q
  show U g Γ 1 Q 0 0 0 [(0, .ref o)] [] h
  unfold f_X1_init at hf
  replace hf := (bsome hf).choose_spec.2
  refine U_aload_n (n := 1) 0 C dX1_init_0 rfl rfl rfl ?_
  refine U_objInit (n := 4) C dX1_init_1 oi_RX1 oi_i oi_c (Nat.le_of_ble_eq_true rfl) rfl ?_
  refine U_aload_n (n := 5) 0 C dX1_init_4 rfl rfl rfl ?_
  refine U_bipush (n := 7) (120 : Int32) C dX1_init_5 kbipush_120 rfl ?_
  refine U_bnew (fun k => U_newI (n := 9) (N := 120) C dX1_init_7 (by decide) (by decide) (Nat.le_of_ble_eq_true rfl) (Nat.le_of_ble_eq_true rfl) (Nat.le_of_ble_eq_true rfl) rfl k) hf (fun q1 h2 hf => ?_)
  refine pf_RX1_9 (n := 12) C dX1_init_9 rfl hf rfl (fun h3 hf => ?_)
  refine U_aload_n (n := 13) 0 C dX1_init_12 rfl rfl rfl ?_
  refine U_iconst (n := 14) (0 : Int32) C dX1_init_13 kiconst_0 rfl ?_
  refine pf_RX1_15 (n := 17) C dX1_init_14 hf rfl (fun h4 hf => ?_)
  refine U_aload_n (n := 18) 0 C dX1_init_17 rfl rfl rfl ?_
  refine U_bipush (n := 20) (120 : Int32) C dX1_init_18 kbipush_120 rfl ?_
  refine U_bnew (fun k => U_newI (n := 22) (N := 120) C dX1_init_20 (by decide) (by decide) (Nat.le_of_ble_eq_true rfl) (Nat.le_of_ble_eq_true rfl) (Nat.le_of_ble_eq_true rfl) rfl k) hf (fun q5 h6 hf => ?_)
  refine pf_RX1_19 (n := 25) C dX1_init_22 rfl hf rfl (fun h7 hf => ?_)
  refine U_aload_n (n := 26) 0 C dX1_init_25 rfl rfl rfl ?_
  refine U_sipush (n := 29) (360 : Int32) C dX1_init_26 ksipush_360 rfl ?_
  refine U_bnew (fun k => U_newI (n := 31) (N := 360) C dX1_init_29 (by decide) (by decide) (Nat.le_of_ble_eq_true rfl) (Nat.le_of_ble_eq_true rfl) (Nat.le_of_ble_eq_true rfl) rfl k) hf (fun q8 h9 hf => ?_)
  refine pf_RX1_22 (n := 34) C dX1_init_31 rfl hf rfl (fun h10 hf => ?_)
  refine U_aload_n (n := 35) 0 C dX1_init_34 rfl rfl rfl ?_
  refine U_iconst (n := 36) (0 : Int32) C dX1_init_35 kiconst_0 rfl ?_
  refine pf_RX1_25 (n := 39) C dX1_init_36 hf rfl (fun h11 hf => ?_)
  have hr := (Option.some.inj hf)
  subst hr
  subst hQ
  exact U_vret C dX1_init_39 (Nat.le_refl _) (Nat.le_refl _)
def f_X3_init (o : Nat) (h : Hp) : Option Hp :=
  (rc 3 h o).bind fun _ =>
  bind2 (some ((h).length, h ++ [.inr (0, [.int 0, .int 0, .int 0, .null, .null, .null, .null, .null, .null, .null])])) fun q1 h2 =>
  (f_X0_init q1 h2).bind fun h4 =>
  (sF 3 0 (.ref q1) h4 o).bind fun h5 =>
  bind2 (some ((h5).length, h5 ++ [.inr (2, [.int 0, .int 0, .int 0, .null, .null, .null, .null, .null, .null, .null])])) fun q6 h7 =>
  (f_X2_init q6 h7).bind fun h9 =>
  (sF 3 1 (.ref q6) h9 o).bind fun h10 =>
  bind2 (some ((h10).length, h10 ++ [.inr (1, [.null, .int 0, .null, .null, .int 0])])) fun q11 h12 =>
  (f_X1_init q11 h12).bind fun h14 =>
  (sF 3 2 (.ref q11) h14 o).bind fun h15 =>
  bind2 (some ((h15).length, h15 ++ [.inl (2, (4, .inr (.inr (.inr (.inr fun _ => none)))))])) fun q16 h17 =>
  (sF 3 3 (.ref q16) h17 o).bind fun h18 =>
  (sF 3 4 (.int (0 : Int32)) h18 o).bind fun h19 =>
  bind2 (some ((h19).length, h19 ++ [.inl (0, (56, .inl fun _ => 0))])) fun q20 h21 =>
  (sF 3 5 (.ref q20) h21 o).bind fun h22 =>
  bind2 (some ((h22).length, h22 ++ [.inl (0, (10, .inl fun _ => 0))])) fun q23 h24 =>
  (sF 3 6 (.ref q23) h24 o).bind fun h25 =>
  bind2 (some ((h25).length, h25 ++ [.inl (0, (28, .inl fun _ => 0))])) fun q26 h27 =>
  (sF 3 7 (.ref q26) h27 o).bind fun h28 =>
  bind2 (some ((h28).length, h28 ++ [.inl (0, (8, .inl fun _ => 0))])) fun q29 h30 =>
  (sF 3 8 (.ref q29) h30 o).bind fun h31 =>
  bind2 (some ((h31).length, h31 ++ [.inl (0, (8, .inl fun _ => 0))])) fun q32 h33 =>
  (sF 3 9 (.ref q32) h33 o).bind fun h34 =>
  bind2 (some ((h34).length, h34 ++ [.inl (0, (8, .inl fun _ => 0))])) fun q35 h36 =>
  (sF 3 10 (.ref q35) h36 o).bind fun h37 =>
  bind2 (some ((h37).length, h37 ++ [.inl (0, (8, .inl fun _ => 0))])) fun q38 h39 =>
  (sF 3 11 (.ref q38) h39 o).bind fun h40 =>
  (fR 3 3 h40 o).bind fun v41 =>
  bind2 (some ((h40).length, h40 ++ [.inr (2, [.int 0, .int 0, .int 0, .null, .null, .null, .null, .null, .null, .null])])) fun q42 h43 =>
  (f_X2_init q42 h43).bind fun h45 =>
  (wQ h45 v41 (0 : Int32) q42).bind fun h46 =>
  (fR 3 3 h46 o).bind fun v47 =>
  bind2 (some ((h46).length, h46 ++ [.inr (2, [.int 0, .int 0, .int 0, .null, .null, .null, .null, .null, .null, .null])])) fun q48 h49 =>
  (f_X2_init q48 h49).bind fun h51 =>
  (wQ h51 v47 (1 : Int32) q48).bind fun h52 =>
  (fR 3 3 h52 o).bind fun v53 =>
  bind2 (some ((h52).length, h52 ++ [.inr (2, [.int 0, .int 0, .int 0, .null, .null, .null, .null, .null, .null, .null])])) fun q54 h55 =>
  (f_X2_init q54 h55).bind fun h57 =>
  (wQ h57 v53 (2 : Int32) q54).bind fun h58 =>
  (fR 3 3 h58 o).bind fun v59 =>
  bind2 (some ((h58).length, h58 ++ [.inr (2, [.int 0, .int 0, .int 0, .null, .null, .null, .null, .null, .null, .null])])) fun q60 h61 =>
  (f_X2_init q60 h61).bind fun h63 =>
  (wQ h63 v59 (3 : Int32) q60).bind fun h64 =>
  (fR 3 1 h64 o).bind fun v65 =>
  (f_X2_clearFor v65 (5 : Int32) h64).bind fun h67 =>
  (fR 3 0 h67 o).bind fun v68 =>
  (f_X0_arrange v68 (5 : Int32) h67).bind fun h70 =>
  some (h70)
theorem rc_X3_init {o : Nat} {h : Hp} {z} (hf : f_X3_init o h = some z) : rc 3 h o = some () := by
  unfold f_X3_init at hf
  exact (bsome hf).choose_spec.1
set_option maxHeartbeats 2000000 in
set_option maxRecDepth 20000 in
theorem M_X3_init {g : GT} {o : Nat} {h : Hp} {h2 : Hp} (hf : f_X3_init o h = some h2) : CM g yX3_init cX3_init 2 none 11 60 7667 [.ref o] h (.inr none) h2 := by
  refine CM_of rfl (fun _ => Nat.le_of_ble_eq_true rfl) (fun Γ C hn0 => ?_)
  have C : Cx g Γ cX3_init RX3 "<init>" 2 none 11 60 7667 := C
  generalize hQ : Qe g Γ (.inr none) h2 60 7667 = Q
  show U g Γ 2 Q 0 0 0 [(0, .ref o)] [] h
  unfold f_X3_init at hf
  replace hf := (bsome hf).choose_spec.2
  refine U_aload_n (n := 1) 0 C dX3_init_0 rfl rfl rfl ?_
  refine U_objInit (n := 4) C dX3_init_1 oi_RX3 oi_i oi_c (Nat.le_of_ble_eq_true rfl) rfl ?_
  refine U_aload_n (n := 5) 0 C dX3_init_4 rfl rfl rfl ?_
  refine U_bnew (fun k => U_new (n := 8) 0 (fs := [.int 0, .int 0, .int 0, .null, .null, .null, .null, .null, .null, .null]) C dX3_init_5 rfl inB_0 tyX0_ok cl_RX3_7 is_RX0 in_RX0 ndf_0 rfl (Nat.le_of_ble_eq_true rfl) (Nat.le_of_ble_eq_true rfl) rfl k) hf (fun q1 h2 hf => ?_)
  refine U_dup (n := 9) C dX3_init_8 rfl rfl ?_
  obtain ⟨h4, ev3, hf⟩ := bsome hf
  refine cv_RX3_9 (n := 12) C dX3_init_9 (av := []) rfl (M_X0_init ev3) (Nat.le_of_ble_eq_true rfl) (Nat.le_of_ble_eq_true rfl) (Nat.le_of_ble_eq_true rfl) (Nat.le_of_ble_eq_true rfl) rfl ?_
  refine pf_RX3_10 (n := 15) C dX3_init_12 rfl hf rfl (fun h5 hf => ?_)
  refine U_aload_n (n := 16) 0 C dX3_init_15 rfl rfl rfl ?_
  refine U_bnew (fun k => U_new (n := 19) 2 (fs := [.int 0, .int 0, .int 0, .null, .null, .null, .null, .null, .null, .null]) C dX3_init_16 rfl inB_2 tyX2_ok cl_RX3_16 is_RX2 in_RX2 ndf_2 rfl (Nat.le_of_ble_eq_true rfl) (Nat.le_of_ble_eq_true rfl) rfl k) hf (fun q6 h7 hf => ?_)
  refine U_dup (n := 20) C dX3_init_19 rfl rfl ?_
  obtain ⟨h9, ev8, hf⟩ := bsome hf
  refine cv_RX3_18 (n := 23) C dX3_init_20 (av := []) rfl (M_X2_init ev8) (Nat.le_of_ble_eq_true rfl) (Nat.le_of_ble_eq_true rfl) (Nat.le_of_ble_eq_true rfl) (Nat.le_of_ble_eq_true rfl) rfl ?_
  refine pf_RX3_19 (n := 26) C dX3_init_23 rfl hf rfl (fun h10 hf => ?_)
  refine U_aload_n (n := 27) 0 C dX3_init_26 rfl rfl rfl ?_
  refine U_bnew (fun k => U_new (n := 30) 1 (fs := [.null, .int 0, .null, .null, .int 0]) C dX3_init_27 rfl inB_1 tyX1_ok cl_RX3_23 is_RX1 in_RX1 ndf_1 rfl (Nat.le_of_ble_eq_true rfl) (Nat.le_of_ble_eq_true rfl) rfl k) hf (fun q11 h12 hf => ?_)
  refine U_dup (n := 31) C dX3_init_30 rfl rfl ?_
  obtain ⟨h14, ev13, hf⟩ := bsome hf
  refine cv_RX3_25 (n := 34) C dX3_init_31 (av := []) rfl (M_X1_init ev13) (Nat.le_of_ble_eq_true rfl) (Nat.le_of_ble_eq_true rfl) (Nat.le_of_ble_eq_true rfl) (Nat.le_of_ble_eq_true rfl) rfl ?_
  refine pf_RX3_26 (n := 37) C dX3_init_34 rfl hf rfl (fun h15 hf => ?_)
  refine U_aload_n (n := 38) 0 C dX3_init_37 rfl rfl rfl ?_
  refine U_iconst (n := 39) (4 : Int32) C dX3_init_38 kiconst_4 rfl ?_
  refine U_bnew (fun k => U_newQ (n := 42) (N := 4) C dX3_init_39 cl_RX3_16 (by decide) (by decide) (Nat.le_of_ble_eq_true rfl) (Nat.le_of_ble_eq_true rfl) (Nat.le_of_ble_eq_true rfl) rfl k) hf (fun q16 h17 hf => ?_)
  refine pf_RX3_30 (n := 45) C dX3_init_42 rfl hf rfl (fun h18 hf => ?_)
  refine U_aload_n (n := 46) 0 C dX3_init_45 rfl rfl rfl ?_
  refine U_iconst (n := 47) (0 : Int32) C dX3_init_46 kiconst_0 rfl ?_
  refine pf_RX3_34 (n := 50) C dX3_init_47 hf rfl (fun h19 hf => ?_)
  refine U_aload_n (n := 51) 0 C dX3_init_50 rfl rfl rfl ?_
  refine U_bipush (n := 53) (56 : Int32) C dX3_init_51 kbipush_56 rfl ?_
  refine U_bnew (fun k => U_newI (n := 55) (N := 56) C dX3_init_53 (by decide) (by decide) (Nat.le_of_ble_eq_true rfl) (Nat.le_of_ble_eq_true rfl) (Nat.le_of_ble_eq_true rfl) rfl k) hf (fun q20 h21 hf => ?_)
  refine pf_RX3_38 (n := 58) C dX3_init_55 rfl hf rfl (fun h22 hf => ?_)
  refine U_aload_n (n := 59) 0 C dX3_init_58 rfl rfl rfl ?_
  refine U_bipush (n := 61) (10 : Int32) C dX3_init_59 kbipush_10 rfl ?_
  refine U_bnew (fun k => U_newI (n := 63) (N := 10) C dX3_init_61 (by decide) (by decide) (Nat.le_of_ble_eq_true rfl) (Nat.le_of_ble_eq_true rfl) (Nat.le_of_ble_eq_true rfl) rfl k) hf (fun q23 h24 hf => ?_)
  refine pf_RX3_42 (n := 66) C dX3_init_63 rfl hf rfl (fun h25 hf => ?_)
  refine U_aload_n (n := 67) 0 C dX3_init_66 rfl rfl rfl ?_
  refine U_bipush (n := 69) (28 : Int32) C dX3_init_67 kbipush_28 rfl ?_
  refine U_bnew (fun k => U_newI (n := 71) (N := 28) C dX3_init_69 (by decide) (by decide) (Nat.le_of_ble_eq_true rfl) (Nat.le_of_ble_eq_true rfl) (Nat.le_of_ble_eq_true rfl) rfl k) hf (fun q26 h27 hf => ?_)
  refine pf_RX3_45 (n := 74) C dX3_init_71 rfl hf rfl (fun h28 hf => ?_)
  refine U_aload_n (n := 75) 0 C dX3_init_74 rfl rfl rfl ?_
  refine U_bipush (n := 77) (8 : Int32) C dX3_init_75 kbipush_8 rfl ?_
  refine U_bnew (fun k => U_newI (n := 79) (N := 8) C dX3_init_77 (by decide) (by decide) (Nat.le_of_ble_eq_true rfl) (Nat.le_of_ble_eq_true rfl) (Nat.le_of_ble_eq_true rfl) rfl k) hf (fun q29 h30 hf => ?_)
  refine pf_RX3_48 (n := 82) C dX3_init_79 rfl hf rfl (fun h31 hf => ?_)
  refine U_aload_n (n := 83) 0 C dX3_init_82 rfl rfl rfl ?_
  refine U_bipush (n := 85) (8 : Int32) C dX3_init_83 kbipush_8 rfl ?_
  refine U_bnew (fun k => U_newI (n := 87) (N := 8) C dX3_init_85 (by decide) (by decide) (Nat.le_of_ble_eq_true rfl) (Nat.le_of_ble_eq_true rfl) (Nat.le_of_ble_eq_true rfl) rfl k) hf (fun q32 h33 hf => ?_)
  refine pf_RX3_51 (n := 90) C dX3_init_87 rfl hf rfl (fun h34 hf => ?_)
  refine U_aload_n (n := 91) 0 C dX3_init_90 rfl rfl rfl ?_
  refine U_bipush (n := 93) (8 : Int32) C dX3_init_91 kbipush_8 rfl ?_
  refine U_bnew (fun k => U_newI (n := 95) (N := 8) C dX3_init_93 (by decide) (by decide) (Nat.le_of_ble_eq_true rfl) (Nat.le_of_ble_eq_true rfl) (Nat.le_of_ble_eq_true rfl) rfl k) hf (fun q35 h36 hf => ?_)
  refine pf_RX3_54 (n := 98) C dX3_init_95 rfl hf rfl (fun h37 hf => ?_)
  refine U_aload_n (n := 99) 0 C dX3_init_98 rfl rfl rfl ?_
  refine U_bipush (n := 101) (8 : Int32) C dX3_init_99 kbipush_8 rfl ?_
  refine U_bnew (fun k => U_newI (n := 103) (N := 8) C dX3_init_101 (by decide) (by decide) (Nat.le_of_ble_eq_true rfl) (Nat.le_of_ble_eq_true rfl) (Nat.le_of_ble_eq_true rfl) rfl k) hf (fun q38 h39 hf => ?_)
  refine pf_RX3_57 (n := 106) C dX3_init_103 rfl hf rfl (fun h40 hf => ?_)
  refine U_iconst (n := 107) (0 : Int32) C dX3_init_106 kiconst_0 rfl ?_
  refine U_istore_n (n := 108) (lv2 := [(1, .int (0 : Int32)), (0, .ref o)]) C dX3_init_107 (by decide) rfl rfl ?_
  refine U_iload_n (n := 109) 0 C dX3_init_108 rfl rfl ?_
  refine U_iconst (n := 110) (4 : Int32) C dX3_init_109 kiconst_4 rfl ?_
  refine U_icge (tgt := 132) (n := 113) C dX3_init_110 (by decide) rfl (fun c => absurd c (by decide)) (fun c => ?_)
  refine U_aload_n (n := 114) 1 C dX3_init_113 rfl rfl rfl ?_
  refine gf_RX3_30 (n := 117) C dX3_init_114 hf rfl (fun v41 hf => ?_)
  refine U_iload_n (n := 118) 0 C dX3_init_117 rfl rfl ?_
  refine U_bnew (fun k => U_new (n := 121) 2 (fs := [.int 0, .int 0, .int 0, .null, .null, .null, .null, .null, .null, .null]) C dX3_init_118 rfl inB_2 tyX2_ok cl_RX3_16 is_RX2 in_RX2 ndf_2 rfl (Nat.le_of_ble_eq_true rfl) (Nat.le_of_ble_eq_true rfl) rfl k) hf (fun q42 h43 hf => ?_)
  refine U_dup (n := 122) C dX3_init_121 rfl rfl ?_
  obtain ⟨h45, ev44, hf⟩ := bsome hf
  refine cv_RX3_18 (n := 125) C dX3_init_122 (av := []) rfl (M_X2_init ev44) (Nat.le_of_ble_eq_true rfl) (Nat.le_of_ble_eq_true rfl) (Nat.le_of_ble_eq_true rfl) (Nat.le_of_ble_eq_true rfl) rfl ?_
  refine U_aast (n := 126) C dX3_init_125 hf rfl (fun h46 hf => ?_)
  refine U_iinc (n := 129) (v := (1 : Int32)) (lv2 := [(1, .int (1 : Int32)), (0, .ref o)]) 0 C dX3_init_126 rfl (by decide) (by decide) rfl rfl ?_
  refine U_goto (n := 0) (tgt := 108) C dX3_init_129 (by decide) ?_
  refine U_iload_n (n := 109) 0 C dX3_init_108 rfl rfl ?_
  refine U_iconst (n := 110) (4 : Int32) C dX3_init_109 kiconst_4 rfl ?_
  refine U_icge (tgt := 132) (n := 113) C dX3_init_110 (by decide) rfl (fun c => absurd c (by decide)) (fun c => ?_)
  refine U_aload_n (n := 114) 1 C dX3_init_113 rfl rfl rfl ?_
  refine gf_RX3_30 (n := 117) C dX3_init_114 hf rfl (fun v47 hf => ?_)
  refine U_iload_n (n := 118) 0 C dX3_init_117 rfl rfl ?_
  refine U_bnew (fun k => U_new (n := 121) 2 (fs := [.int 0, .int 0, .int 0, .null, .null, .null, .null, .null, .null, .null]) C dX3_init_118 rfl inB_2 tyX2_ok cl_RX3_16 is_RX2 in_RX2 ndf_2 rfl (Nat.le_of_ble_eq_true rfl) (Nat.le_of_ble_eq_true rfl) rfl k) hf (fun q48 h49 hf => ?_)
  refine U_dup (n := 122) C dX3_init_121 rfl rfl ?_
  obtain ⟨h51, ev50, hf⟩ := bsome hf
  refine cv_RX3_18 (n := 125) C dX3_init_122 (av := []) rfl (M_X2_init ev50) (Nat.le_of_ble_eq_true rfl) (Nat.le_of_ble_eq_true rfl) (Nat.le_of_ble_eq_true rfl) (Nat.le_of_ble_eq_true rfl) rfl ?_
  refine U_aast (n := 126) C dX3_init_125 hf rfl (fun h52 hf => ?_)
  refine U_iinc (n := 129) (v := (2 : Int32)) (lv2 := [(1, .int (2 : Int32)), (0, .ref o)]) 0 C dX3_init_126 rfl (by decide) (by decide) rfl rfl ?_
  refine U_goto (n := 0) (tgt := 108) C dX3_init_129 (by decide) ?_
  refine U_iload_n (n := 109) 0 C dX3_init_108 rfl rfl ?_
  refine U_iconst (n := 110) (4 : Int32) C dX3_init_109 kiconst_4 rfl ?_
  refine U_icge (tgt := 132) (n := 113) C dX3_init_110 (by decide) rfl (fun c => absurd c (by decide)) (fun c => ?_)
  refine U_aload_n (n := 114) 1 C dX3_init_113 rfl rfl rfl ?_
  refine gf_RX3_30 (n := 117) C dX3_init_114 hf rfl (fun v53 hf => ?_)
  refine U_iload_n (n := 118) 0 C dX3_init_117 rfl rfl ?_
  refine U_bnew (fun k => U_new (n := 121) 2 (fs := [.int 0, .int 0, .int 0, .null, .null, .null, .null, .null, .null, .null]) C dX3_init_118 rfl inB_2 tyX2_ok cl_RX3_16 is_RX2 in_RX2 ndf_2 rfl (Nat.le_of_ble_eq_true rfl) (Nat.le_of_ble_eq_true rfl) rfl k) hf (fun q54 h55 hf => ?_)
  refine U_dup (n := 122) C dX3_init_121 rfl rfl ?_
  obtain ⟨h57, ev56, hf⟩ := bsome hf
  refine cv_RX3_18 (n := 125) C dX3_init_122 (av := []) rfl (M_X2_init ev56) (Nat.le_of_ble_eq_true rfl) (Nat.le_of_ble_eq_true rfl) (Nat.le_of_ble_eq_true rfl) (Nat.le_of_ble_eq_true rfl) rfl ?_
  refine U_aast (n := 126) C dX3_init_125 hf rfl (fun h58 hf => ?_)
  refine U_iinc (n := 129) (v := (3 : Int32)) (lv2 := [(1, .int (3 : Int32)), (0, .ref o)]) 0 C dX3_init_126 rfl (by decide) (by decide) rfl rfl ?_
  refine U_goto (n := 0) (tgt := 108) C dX3_init_129 (by decide) ?_
  refine U_iload_n (n := 109) 0 C dX3_init_108 rfl rfl ?_
  refine U_iconst (n := 110) (4 : Int32) C dX3_init_109 kiconst_4 rfl ?_
  refine U_icge (tgt := 132) (n := 113) C dX3_init_110 (by decide) rfl (fun c => absurd c (by decide)) (fun c => ?_)
  refine U_aload_n (n := 114) 1 C dX3_init_113 rfl rfl rfl ?_
  refine gf_RX3_30 (n := 117) C dX3_init_114 hf rfl (fun v59 hf => ?_)
  refine U_iload_n (n := 118) 0 C dX3_init_117 rfl rfl ?_
  refine U_bnew (fun k => U_new (n := 121) 2 (fs := [.int 0, .int 0, .int 0, .null, .null, .null, .null, .null, .null, .null]) C dX3_init_118 rfl inB_2 tyX2_ok cl_RX3_16 is_RX2 in_RX2 ndf_2 rfl (Nat.le_of_ble_eq_true rfl) (Nat.le_of_ble_eq_true rfl) rfl k) hf (fun q60 h61 hf => ?_)
  refine U_dup (n := 122) C dX3_init_121 rfl rfl ?_
  obtain ⟨h63, ev62, hf⟩ := bsome hf
  refine cv_RX3_18 (n := 125) C dX3_init_122 (av := []) rfl (M_X2_init ev62) (Nat.le_of_ble_eq_true rfl) (Nat.le_of_ble_eq_true rfl) (Nat.le_of_ble_eq_true rfl) (Nat.le_of_ble_eq_true rfl) rfl ?_
  refine U_aast (n := 126) C dX3_init_125 hf rfl (fun h64 hf => ?_)
  refine U_iinc (n := 129) (v := (4 : Int32)) (lv2 := [(1, .int (4 : Int32)), (0, .ref o)]) 0 C dX3_init_126 rfl (by decide) (by decide) rfl rfl ?_
  refine U_goto (n := 0) (tgt := 108) C dX3_init_129 (by decide) ?_
  refine U_iload_n (n := 109) 0 C dX3_init_108 rfl rfl ?_
  refine U_iconst (n := 110) (4 : Int32) C dX3_init_109 kiconst_4 rfl ?_
  refine U_icge (tgt := 132) (n := 113) C dX3_init_110 (by decide) rfl (fun c => ?_) (fun c => absurd (by decide) c)
  refine U_aload_n (n := 133) 1 C dX3_init_132 rfl rfl rfl ?_
  refine gf_RX3_19 (n := 136) C dX3_init_133 hf rfl (fun v65 hf => ?_)
  refine U_iconst (n := 137) (5 : Int32) C dX3_init_136 kiconst_5 rfl ?_
  obtain ⟨h67, ev66, hf⟩ := bsome hf
  refine cv_RX3_60 (n := 140) C dX3_init_137 (av := [.int (5 : Int32)]) rfl (rc_X2_clearFor ev66) (M_X2_clearFor ev66) (Nat.le_of_ble_eq_true rfl) (Nat.le_of_ble_eq_true rfl) (Nat.le_of_ble_eq_true rfl) (Nat.le_of_ble_eq_true rfl) rfl ?_
  refine U_aload_n (n := 141) 1 C dX3_init_140 rfl rfl rfl ?_
  refine gf_RX3_10 (n := 144) C dX3_init_141 hf rfl (fun v68 hf => ?_)
  refine U_iconst (n := 145) (5 : Int32) C dX3_init_144 kiconst_5 rfl ?_
  obtain ⟨h70, ev69, hf⟩ := bsome hf
  refine cv_RX3_64 (n := 148) C dX3_init_145 (av := [.int (5 : Int32)]) rfl (rc_X0_arrange ev69) (M_X0_arrange ev69) (Nat.le_of_ble_eq_true rfl) (Nat.le_of_ble_eq_true rfl) (Nat.le_of_ble_eq_true rfl) (Nat.le_of_ble_eq_true rfl) rfl ?_
  have hr := (Option.some.inj hf)
  subst hr
  subst hQ
  exact U_vret C dX3_init_148 (Nat.le_refl _) (Nat.le_refl _)
def f_X4_init (o : Nat) (h : Hp) : Option Hp :=
  (rc 4 h o).bind fun _ =>
  bind2 (some ((h).length, h ++ [.inl (0, (243, .inl fun _ => 0))])) fun q1 h2 =>
  (sF 4 0 (.ref q1) h2 o).bind fun h3 =>
  bind2 (some ((h3).length, h3 ++ [.inl (0, (972, .inl fun _ => 0))])) fun q4 h5 =>
  (sF 4 1 (.ref q4) h5 o).bind fun h6 =>
  bind2 (some ((h6).length, h6 ++ [.inl (0, (243, .inl fun _ => 0))])) fun q7 h8 =>
  (sF 4 2 (.ref q7) h8 o).bind fun h9 =>
  bind2 (some ((h9).length, h9 ++ [.inl (0, (120, .inl fun _ => 0))])) fun q10 h11 =>
  (sF 4 4 (.ref q10) h11 o).bind fun h12 =>
  bind2 (some ((h12).length, h12 ++ [.inl (0, (168, .inl fun _ => 0))])) fun q13 h14 =>
  (sF 4 7 (.ref q13) h14 o).bind fun h15 =>
  bind2 (some ((h15).length, h15 ++ [.inl (0, (512, .inl fun _ => 0))])) fun q16 h17 =>
  (sF 4 8 (.ref q16) h17 o).bind fun h18 =>
  bind2 (some ((h18).length, h18 ++ [.inl (0, (1400, .inl fun _ => 0))])) fun q19 h20 =>
  (sF 4 10 (.ref q19) h20 o).bind fun h21 =>
  bind2 (some ((h21).length, h21 ++ [.inl (0, (6, .inl fun _ => 0))])) fun q22 h23 =>
  (sF 4 13 (.ref q22) h23 o).bind fun h24 =>
  bind2 (some ((h24).length, h24 ++ [.inl (0, (6, .inl fun _ => 0))])) fun q25 h26 =>
  (sF 4 14 (.ref q25) h26 o).bind fun h27 =>
  bind2 (some ((h27).length, h27 ++ [.inl (0, (56, .inl fun _ => 0))])) fun q28 h29 =>
  (sF 4 15 (.ref q28) h29 o).bind fun h30 =>
  bind2 (some ((h30).length, h30 ++ [.inl (1, (56, .inr (.inl fun _ => 0)))])) fun q31 h32 =>
  (sF 4 16 (.ref q31) h32 o).bind fun h33 =>
  bind2 (some ((h33).length, h33 ++ [.inl (0, (10, .inl fun _ => 0))])) fun q34 h35 =>
  (sF 4 17 (.ref q34) h35 o).bind fun h36 =>
  bind2 (some ((h36).length, h36 ++ [.inl (0, (28, .inl fun _ => 0))])) fun q37 h38 =>
  (sF 4 18 (.ref q37) h38 o).bind fun h39 =>
  bind2 (some ((h39).length, h39 ++ [.inl (0, (16, .inl fun _ => 0))])) fun q40 h41 =>
  (sF 4 19 (.ref q40) h41 o).bind fun h42 =>
  bind2 (some ((h42).length, h42 ++ [.inl (0, (3, .inl fun _ => 0))])) fun q43 h44 =>
  (sF 4 22 (.ref q43) h44 o).bind fun h45 =>
  (f_X4_begins o (5 : Int32) h45).bind fun h47 =>
  some (h47)
theorem rc_X4_init {o : Nat} {h : Hp} {z} (hf : f_X4_init o h = some z) : rc 4 h o = some () := by
  unfold f_X4_init at hf
  exact (bsome hf).choose_spec.1
set_option maxHeartbeats 2000000 in
set_option maxRecDepth 20000 in
theorem M_X4_init {g : GT} {o : Nat} {h : Hp} {h2 : Hp} (hf : f_X4_init o h = some h2) : CM g yX4_init cX4_init 1 none 9 15 3839 [.ref o] h (.inr none) h2 := by
  refine CM_of rfl (fun _ => Nat.le_of_ble_eq_true rfl) (fun Γ C hn0 => ?_)
  have C : Cx g Γ cX4_init RX4 "<init>" 1 none 9 15 3839 := C
  generalize hQ : Qe g Γ (.inr none) h2 15 3839 = Q
  show U g Γ 1 Q 0 0 0 [(0, .ref o)] [] h
  unfold f_X4_init at hf
  replace hf := (bsome hf).choose_spec.2
  refine U_aload_n (n := 1) 0 C dX4_init_0 rfl rfl rfl ?_
  refine U_objInit (n := 4) C dX4_init_1 oi_RX4 oi_i oi_c (Nat.le_of_ble_eq_true rfl) rfl ?_
  refine U_aload_n (n := 5) 0 C dX4_init_4 rfl rfl rfl ?_
  refine U_sipush (n := 8) (243 : Int32) C dX4_init_5 ksipush_243 rfl ?_
  refine U_bnew (fun k => U_newI (n := 10) (N := 243) C dX4_init_8 (by decide) (by decide) (Nat.le_of_ble_eq_true rfl) (Nat.le_of_ble_eq_true rfl) (Nat.le_of_ble_eq_true rfl) rfl k) hf (fun q1 h2 hf => ?_)
  refine pf_RX4_7 (n := 13) C dX4_init_10 rfl hf rfl (fun h3 hf => ?_)
  refine U_aload_n (n := 14) 0 C dX4_init_13 rfl rfl rfl ?_
  refine U_sipush (n := 17) (972 : Int32) C dX4_init_14 ksipush_972 rfl ?_
  refine U_bnew (fun k => U_newI (n := 19) (N := 972) C dX4_init_17 (by decide) (by decide) (Nat.le_of_ble_eq_true rfl) (Nat.le_of_ble_eq_true rfl) (Nat.le_of_ble_eq_true rfl) rfl k) hf (fun q4 h5 hf => ?_)
  refine pf_RX4_13 (n := 22) C dX4_init_19 rfl hf rfl (fun h6 hf => ?_)
  refine U_aload_n (n := 23) 0 C dX4_init_22 rfl rfl rfl ?_
  refine U_sipush (n := 26) (243 : Int32) C dX4_init_23 ksipush_243 rfl ?_
  refine U_bnew (fun k => U_newI (n := 28) (N := 243) C dX4_init_26 (by decide) (by decide) (Nat.le_of_ble_eq_true rfl) (Nat.le_of_ble_eq_true rfl) (Nat.le_of_ble_eq_true rfl) rfl k) hf (fun q7 h8 hf => ?_)
  refine pf_RX4_16 (n := 31) C dX4_init_28 rfl hf rfl (fun h9 hf => ?_)
  refine U_aload_n (n := 32) 0 C dX4_init_31 rfl rfl rfl ?_
  refine U_bipush (n := 34) (120 : Int32) C dX4_init_32 kbipush_120 rfl ?_
  refine U_bnew (fun k => U_newI (n := 36) (N := 120) C dX4_init_34 (by decide) (by decide) (Nat.le_of_ble_eq_true rfl) (Nat.le_of_ble_eq_true rfl) (Nat.le_of_ble_eq_true rfl) rfl k) hf (fun q10 h11 hf => ?_)
  refine pf_RX4_19 (n := 39) C dX4_init_36 rfl hf rfl (fun h12 hf => ?_)
  refine U_aload_n (n := 40) 0 C dX4_init_39 rfl rfl rfl ?_
  refine U_sipush (n := 43) (168 : Int32) C dX4_init_40 ksipush_168 rfl ?_
  refine U_bnew (fun k => U_newI (n := 45) (N := 168) C dX4_init_43 (by decide) (by decide) (Nat.le_of_ble_eq_true rfl) (Nat.le_of_ble_eq_true rfl) (Nat.le_of_ble_eq_true rfl) rfl k) hf (fun q13 h14 hf => ?_)
  refine pf_RX4_22 (n := 48) C dX4_init_45 rfl hf rfl (fun h15 hf => ?_)
  refine U_aload_n (n := 49) 0 C dX4_init_48 rfl rfl rfl ?_
  refine U_sipush (n := 52) (512 : Int32) C dX4_init_49 ksipush_512 rfl ?_
  refine U_bnew (fun k => U_newI (n := 54) (N := 512) C dX4_init_52 (by decide) (by decide) (Nat.le_of_ble_eq_true rfl) (Nat.le_of_ble_eq_true rfl) (Nat.le_of_ble_eq_true rfl) rfl k) hf (fun q16 h17 hf => ?_)
  refine pf_RX4_25 (n := 57) C dX4_init_54 rfl hf rfl (fun h18 hf => ?_)
  refine U_aload_n (n := 58) 0 C dX4_init_57 rfl rfl rfl ?_
  refine U_sipush (n := 61) (1400 : Int32) C dX4_init_58 ksipush_1400 rfl ?_
  refine U_bnew (fun k => U_newI (n := 63) (N := 1400) C dX4_init_61 (by decide) (by decide) (Nat.le_of_ble_eq_true rfl) (Nat.le_of_ble_eq_true rfl) (Nat.le_of_ble_eq_true rfl) rfl k) hf (fun q19 h20 hf => ?_)
  refine pf_RX4_28 (n := 66) C dX4_init_63 rfl hf rfl (fun h21 hf => ?_)
  refine U_aload_n (n := 67) 0 C dX4_init_66 rfl rfl rfl ?_
  refine U_bipush (n := 69) (6 : Int32) C dX4_init_67 kbipush_6 rfl ?_
  refine U_bnew (fun k => U_newI (n := 71) (N := 6) C dX4_init_69 (by decide) (by decide) (Nat.le_of_ble_eq_true rfl) (Nat.le_of_ble_eq_true rfl) (Nat.le_of_ble_eq_true rfl) rfl k) hf (fun q22 h23 hf => ?_)
  refine pf_RX4_31 (n := 74) C dX4_init_71 rfl hf rfl (fun h24 hf => ?_)
  refine U_aload_n (n := 75) 0 C dX4_init_74 rfl rfl rfl ?_
  refine U_bipush (n := 77) (6 : Int32) C dX4_init_75 kbipush_6 rfl ?_
  refine U_bnew (fun k => U_newI (n := 79) (N := 6) C dX4_init_77 (by decide) (by decide) (Nat.le_of_ble_eq_true rfl) (Nat.le_of_ble_eq_true rfl) (Nat.le_of_ble_eq_true rfl) rfl k) hf (fun q25 h26 hf => ?_)
  refine pf_RX4_34 (n := 82) C dX4_init_79 rfl hf rfl (fun h27 hf => ?_)
  refine U_aload_n (n := 83) 0 C dX4_init_82 rfl rfl rfl ?_
  refine U_bipush (n := 85) (56 : Int32) C dX4_init_83 kbipush_56 rfl ?_
  refine U_bnew (fun k => U_newI (n := 87) (N := 56) C dX4_init_85 (by decide) (by decide) (Nat.le_of_ble_eq_true rfl) (Nat.le_of_ble_eq_true rfl) (Nat.le_of_ble_eq_true rfl) rfl k) hf (fun q28 h29 hf => ?_)
  refine pf_RX4_37 (n := 90) C dX4_init_87 rfl hf rfl (fun h30 hf => ?_)
  refine U_aload_n (n := 91) 0 C dX4_init_90 rfl rfl rfl ?_
  refine U_bipush (n := 93) (56 : Int32) C dX4_init_91 kbipush_56 rfl ?_
  refine U_bnew (fun k => U_newJ (n := 95) (N := 56) C dX4_init_93 (by decide) (by decide) (Nat.le_of_ble_eq_true rfl) (Nat.le_of_ble_eq_true rfl) (Nat.le_of_ble_eq_true rfl) rfl k) hf (fun q31 h32 hf => ?_)
  refine pf_RX4_40 (n := 98) C dX4_init_95 rfl hf rfl (fun h33 hf => ?_)
  refine U_aload_n (n := 99) 0 C dX4_init_98 rfl rfl rfl ?_
  refine U_bipush (n := 101) (10 : Int32) C dX4_init_99 kbipush_10 rfl ?_
  refine U_bnew (fun k => U_newI (n := 103) (N := 10) C dX4_init_101 (by decide) (by decide) (Nat.le_of_ble_eq_true rfl) (Nat.le_of_ble_eq_true rfl) (Nat.le_of_ble_eq_true rfl) rfl k) hf (fun q34 h35 hf => ?_)
  refine pf_RX4_44 (n := 106) C dX4_init_103 rfl hf rfl (fun h36 hf => ?_)
  refine U_aload_n (n := 107) 0 C dX4_init_106 rfl rfl rfl ?_
  refine U_bipush (n := 109) (28 : Int32) C dX4_init_107 kbipush_28 rfl ?_
  refine U_bnew (fun k => U_newI (n := 111) (N := 28) C dX4_init_109 (by decide) (by decide) (Nat.le_of_ble_eq_true rfl) (Nat.le_of_ble_eq_true rfl) (Nat.le_of_ble_eq_true rfl) rfl k) hf (fun q37 h38 hf => ?_)
  refine pf_RX4_47 (n := 114) C dX4_init_111 rfl hf rfl (fun h39 hf => ?_)
  refine U_aload_n (n := 115) 0 C dX4_init_114 rfl rfl rfl ?_
  refine U_bipush (n := 117) (16 : Int32) C dX4_init_115 kbipush_16 rfl ?_
  refine U_bnew (fun k => U_newI (n := 119) (N := 16) C dX4_init_117 (by decide) (by decide) (Nat.le_of_ble_eq_true rfl) (Nat.le_of_ble_eq_true rfl) (Nat.le_of_ble_eq_true rfl) rfl k) hf (fun q40 h41 hf => ?_)
  refine pf_RX4_50 (n := 122) C dX4_init_119 rfl hf rfl (fun h42 hf => ?_)
  refine U_aload_n (n := 123) 0 C dX4_init_122 rfl rfl rfl ?_
  refine U_iconst (n := 124) (3 : Int32) C dX4_init_123 kiconst_3 rfl ?_
  refine U_bnew (fun k => U_newI (n := 126) (N := 3) C dX4_init_124 (by decide) (by decide) (Nat.le_of_ble_eq_true rfl) (Nat.le_of_ble_eq_true rfl) (Nat.le_of_ble_eq_true rfl) rfl k) hf (fun q43 h44 hf => ?_)
  refine pf_RX4_53 (n := 129) C dX4_init_126 rfl hf rfl (fun h45 hf => ?_)
  refine U_aload_n (n := 130) 0 C dX4_init_129 rfl rfl rfl ?_
  refine U_iconst (n := 131) (5 : Int32) C dX4_init_130 kiconst_5 rfl ?_
  obtain ⟨h47, ev46, hf⟩ := bsome hf
  refine cv_RX4_56 (n := 134) C dX4_init_131 (av := [.int (5 : Int32)]) rfl (rc_X4_begins ev46) (M_X4_begins ev46) (Nat.le_of_ble_eq_true rfl) (Nat.le_of_ble_eq_true rfl) (Nat.le_of_ble_eq_true rfl) (Nat.le_of_ble_eq_true rfl) rfl ?_
  have hr := (Option.some.inj hf)
  subst hr
  subst hQ
  exact U_vret C dX4_init_134 (Nat.le_refl _) (Nat.le_refl _)
