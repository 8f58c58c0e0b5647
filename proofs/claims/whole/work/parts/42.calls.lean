/-! calls: the class and then the reference -/
def okW (X : Hp → Option (Int32 × Hp)) (Y : Hp → Option (Int32 × Hp)) (m : Mem) : Prop := ∃ k m1 b m2, X (HH m) = some (k, HH m1) ∧ Y (HH m1) = some (b, HH m2) ∧ m2.I 61 6 = k ∧ (k = 0 → m2.J 77 0 = b.toInt64) ∧ INV m2
def okJ (X : Hp → Option (Int32 × Hp)) (Y : Hp → Option (Int64 × Hp)) (m : Mem) : Prop := ∃ k m1 b m2, X (HH m) = some (k, HH m1) ∧ Y (HH m1) = some (b, HH m2) ∧ m2.I 61 6 = k ∧ (k = 0 → m2.J 77 0 = b) ∧ INV m2
def okN {α : Type} (X Y : Hp → Option (α × Hp)) (m : Mem) : Prop := ∃ v m1 m2, X (HH m) = some (v, HH m1) ∧ Y (HH m1) = some (v, HH m2) ∧ INV m2
theorem out_lo (m : Mem) (w : Int64) : loM m (m.sJ 77 0 w) := ⟨fun a ha => ⟨rfl, if_neg (by omega)⟩, rfl⟩
theorem out_J (m : Mem) (w : Int64) : (m.sJ 77 0 w).J 77 0 = w := by
  show (if 77 = 77 then vp_updL (m.J 77) 0 w else m.J 77) 0 = w
  rw [if_pos rfl, updL_g, if_pos rfl]
theorem w77 (m : Mem) (w : Int64) : wJ (HH m) 77 0 w = some (HH (m.sJ 77 0 w)) := w_77 m (i := 0) (by omega) w
section Calls
variable {n n' : Nat} {s s' : Nat → Int32} {M M' : Nat → Int64} {q q' : Nat} {P P' : Nat → Nat → Int32} {PM PM' : Nat → Nat → Int64} {tl tl' : Nat} {tx tx' : Nat → Int32} {m m1 : Mem}
/-- all that holds beside the two pictures -/
def BB (n : Nat) (s : Nat → Int32) (M : Nat → Int64) (q : Nat) (P : Nat → Nat → Int32) (PM : Nat → Nat → Int64) (tl : Nat) (tx : Nat → Int32) : Prop := GG n s M ∧ q ≤ 4 ∧ (∀ i, i < q → ∃ ni, GG ni (P i) (PM i)) ∧ tl ≤ 120 ∧ ∀ k, k < tl → 0 ≤ tx k ∧ tx k ≤ 127
theorem BB_psh (b : BB n s M q P PM tl tx) (g : GG n' s' M') : BB n' s' M' (up4 q) (psh q P s) (psh q PM M) tl tx := ⟨g, up4_le q b.2.1, psh_ok b.2.1 b.2.2.1 b.1, b.2.2.2.1, b.2.2.2.2⟩
theorem INV_of (hC : CC n s M q P PM tl tx m) (hD : DD n s q P tl tx m) (b : BB n s M q P PM tl tx) : INV m := ⟨n, s, M, q, P, PM, tl, tx, hC, hD, b.1, b.2.1, b.2.2.1, b.2.2.2.1, b.2.2.2.2⟩
theorem INV_out (h : INV m) : ∃ n s M q P PM tl tx, CC n s M q P PM tl tx m ∧ DD n s q P tl tx m ∧ BB n s M q P PM tl tx := by
  obtain ⟨n, s, M, q, P, PM, tl, tx, hC, hD, h1, h2, h3, h4, h5⟩ := h
  exact ⟨n, s, M, q, P, PM, tl, tx, hC, hD, h1, h2, h3, h4, h5⟩
theorem DD_J (h : DD n s q P tl tx m) (a k : Nat) (w : Int64) : DD n s q P tl tx (m.sJ a k w) := h
theorem W_ok {X Y : Hp → Option (Int32 × Hp)} {w : Int64} (hX : X (HH m) = some (0, HH (m1.sJ 77 0 w))) (hC : CC n' s' M' q' P' PM' tl' tx' m1) (u : upC m m1) (hD : DD n s q P tl tx m) (b : BB n' s' M' q' P' PM' tl' tx')
    (hY : ∀ m2, DD n s q P tl tx m2 → ∃ c m3, Y (HH m2) = some (c, HH m3) ∧ c.toInt64 = w ∧ DD n' s' q' P' tl' tx' m3 ∧ m3.I 61 6 = 0 ∧ upM m2 m3) : okW X Y m := by
  obtain ⟨c, m3, eY, ec, hD3, h6, u3⟩ := hY (m1.sJ 77 0 w) (DD_J (DD_up hD u) 77 0 w)
  refine ⟨0, _, c, m3, hX, eY, h6, fun _ => ?_, INV_of (CC_up (CC_lo hC (out_lo m1 w) b.2.1) u3 b.2.1) hD3 b⟩
  rw [(u3.1 77 (Or.inr rfl)).2, out_J, ec]
theorem J_ok {X : Hp → Option (Int32 × Hp)} {Y : Hp → Option (Int64 × Hp)} {w : Int64} (hX : X (HH m) = some (0, HH (m1.sJ 77 0 w))) (hC : CC n' s' M' q' P' PM' tl' tx' m1) (u : upC m m1) (hD : DD n s q P tl tx m) (b : BB n' s' M' q' P' PM' tl' tx')
    (hY : ∀ m2, DD n s q P tl tx m2 → ∃ m3, Y (HH m2) = some (w, HH m3) ∧ DD n' s' q' P' tl' tx' m3 ∧ m3.I 61 6 = 0 ∧ upM m2 m3) : okJ X Y m := by
  obtain ⟨m3, eY, hD3, h6, u3⟩ := hY (m1.sJ 77 0 w) (DD_J (DD_up hD u) 77 0 w)
  refine ⟨0, _, w, m3, hX, eY, h6, fun _ => ?_, INV_of (CC_up (CC_lo hC (out_lo m1 w) b.2.1) u3 b.2.1) hD3 b⟩
  rw [(u3.1 77 (Or.inr rfl)).2, out_J]
theorem W_thr {X Y : Hp → Option (Int32 × Hp)} {k : Int32} (hk : k ≠ 0) (hX : X (HH m) = some (k, HH m)) (hC : CC n s M q P PM tl tx m) (b : BB n s M q P PM tl tx)
    (hY : ∃ c m3, Y (HH m) = some (c, HH m3) ∧ DD n s q P tl tx m3 ∧ m3.I 61 6 = k ∧ upM m m3) : okW X Y m := by
  obtain ⟨c, m3, eY, hD3, h6, u3⟩ := hY
  exact ⟨k, m, c, m3, hX, eY, h6, fun e => absurd e hk, INV_of (CC_up hC u3 b.2.1) hD3 b⟩
theorem J_thr {X : Hp → Option (Int32 × Hp)} {Y : Hp → Option (Int64 × Hp)} {k : Int32} (hk : k ≠ 0) (hX : X (HH m) = some (k, HH m)) (hC : CC n s M q P PM tl tx m) (b : BB n s M q P PM tl tx)
    (hY : ∃ c m3, Y (HH m) = some (c, HH m3) ∧ DD n s q P tl tx m3 ∧ m3.I 61 6 = k ∧ upM m m3) : okJ X Y m := by
  obtain ⟨c, m3, eY, hD3, h6, u3⟩ := hY
  exact ⟨k, m, c, m3, hX, eY, h6, fun e => absurd e hk, INV_of (CC_up hC u3 b.2.1) hD3 b⟩
theorem N_ok {α : Type} {X Y : Hp → Option (α × Hp)} {v : α} (hX : X (HH m) = some (v, HH m1)) (hC : CC n' s' M' q' P' PM' tl' tx' m1) (u : upC m m1) (hD : DD n s q P tl tx m) (b : BB n' s' M' q' P' PM' tl' tx')
    (hY : ∀ m2, DD n s q P tl tx m2 → ∃ m3, Y (HH m2) = some (v, HH m3) ∧ DD n' s' q' P' tl' tx' m3 ∧ upM m2 m3) : okN X Y m := by
  obtain ⟨m3, eY, hD3, u3⟩ := hY m1 (DD_up hD u)
  exact ⟨v, m1, m3, hX, eY, INV_of (CC_up hC u3 b.2.1) hD3 b⟩
theorem up61 {c : Nat → Prop} (f : Fr c m m1) (h : ∀ a, c a → 61 ≤ a ∧ a ≠ 77) : upM m m1 := upM_fr f h
theorem s61 (m : Mem) (k : Nat) (x : Int32) : upM m (m.sI 61 k x) := upM_fr (Fr_sI (Fr_rf (cC 61) m) rfl) (fun a h => by unfold cC at h; omega)
theorem r62 (m : Mem) (f : Nat → Int32) : upM m (m.rI 62 f) := upM_fr (Fr_rI (Fr_rf (cC 62) m) rfl) (fun a h => by unfold cC at h; omega)
theorem m_fails (m : Mem) (c : Int32) : f_X4_fails 61 c (HH m) = some (0, HH (m.sI 61 6 c)) := by
  simp only [f_X4_fails, o_0, g_0_0, g_0_1, g_0_2, g_0_3, g_0_4, p_0_4, g_0_5, g_0_6, g_0_7, g_0_8, g_0_9, g_0_10, g_0_11, o_1, g_1_0, p_1_0, g_1_1, p_1_1, g_1_2, p_1_2, g_1_3, g_1_4, g_1_5, g_1_6, g_1_7, g_1_8, g_1_9, r_2, w_2, r_3, w_3, r_4, w_4, r_5, w_5, r_6, w_6, r_7, w_7, r_8, w_8, o_9, g_9_0, p_9_0, g_9_1, p_9_1, g_9_2, p_9_2, g_9_3, g_9_4, g_9_5, g_9_6, g_9_7, g_9_8, g_9_9, r_10, w_10, r_11, w_11, r_12, w_12, r_13, w_13, r_14, w_14, r_15, w_15, r_16, w_16, o_17, g_17_0, g_17_1, p_17_1, g_17_2, g_17_3, g_17_4, p_17_4, r_18, w_18, r_19, w_19, r_20, w_20, r_22, w_22, r_23, w_23, r_24, w_24, r_25, w_25, r_26, w_26, r_27, w_27, r_28, w_28, o_29, g_29_0, p_29_0, g_29_1, p_29_1, g_29_2, p_29_2, g_29_3, g_29_4, g_29_5, g_29_6, g_29_7, g_29_8, g_29_9, r_30, w_30, r_31, w_31, r_32, w_32, r_33, w_33, r_34, w_34, r_35, w_35, r_36, w_36, o_37, g_37_0, p_37_0, g_37_1, p_37_1, g_37_2, p_37_2, g_37_3, g_37_4, g_37_5, g_37_6, g_37_7, g_37_8, g_37_9, r_38, w_38, r_39, w_39, r_40, w_40, r_41, w_41, r_42, w_42, r_43, w_43, r_44, w_44, o_45, g_45_0, p_45_0, g_45_1, p_45_1, g_45_2, p_45_2, g_45_3, g_45_4, g_45_5, g_45_6, g_45_7, g_45_8, g_45_9, r_46, w_46, r_47, w_47, r_48, w_48, r_49, w_49, r_50, w_50, r_51, w_51, r_52, w_52, o_53, g_53_0, p_53_0, g_53_1, p_53_1, g_53_2, p_53_2, g_53_3, g_53_4, g_53_5, g_53_6, g_53_7, g_53_8, g_53_9, r_54, w_54, r_55, w_55, r_56, w_56, r_57, w_57, r_58, w_58, r_59, w_59, r_60, w_60, o_61, g_61_0, g_61_1, g_61_2, g_61_3, p_61_3, g_61_4, g_61_5, p_61_5, g_61_6, p_61_6, g_61_7, g_61_8, g_61_9, p_61_9, g_61_10, g_61_11, p_61_11, g_61_12, p_61_12, g_61_13, g_61_14, g_61_15, g_61_16, g_61_17, g_61_18, g_61_19, g_61_20, p_61_20, g_61_21, p_61_21, g_61_22, g_61_23, p_61_23, r_62, w_62, r_63, w_63, r_64, w_64, r_65, w_65, r_66, w_66, r_67, w_67, r_68, w_68, r_69, w_69, r_70, w_70, r_71, w_71, r_72, w_72, r_73, w_73, r_74, w_74, r_75, w_75, r_76, w_76, r_77, w_77, Option.bind_some]
theorem m_tells (m : Mem) (v : Int32) : f_X4_tells 61 v (HH m) = some (v, HH (m.sI 61 6 0)) := by
  simp only [f_X4_tells, o_0, g_0_0, g_0_1, g_0_2, g_0_3, g_0_4, p_0_4, g_0_5, g_0_6, g_0_7, g_0_8, g_0_9, g_0_10, g_0_11, o_1, g_1_0, p_1_0, g_1_1, p_1_1, g_1_2, p_1_2, g_1_3, g_1_4, g_1_5, g_1_6, g_1_7, g_1_8, g_1_9, r_2, w_2, r_3, w_3, r_4, w_4, r_5, w_5, r_6, w_6, r_7, w_7, r_8, w_8, o_9, g_9_0, p_9_0, g_9_1, p_9_1, g_9_2, p_9_2, g_9_3, g_9_4, g_9_5, g_9_6, g_9_7, g_9_8, g_9_9, r_10, w_10, r_11, w_11, r_12, w_12, r_13, w_13, r_14, w_14, r_15, w_15, r_16, w_16, o_17, g_17_0, g_17_1, p_17_1, g_17_2, g_17_3, g_17_4, p_17_4, r_18, w_18, r_19, w_19, r_20, w_20, r_22, w_22, r_23, w_23, r_24, w_24, r_25, w_25, r_26, w_26, r_27, w_27, r_28, w_28, o_29, g_29_0, p_29_0, g_29_1, p_29_1, g_29_2, p_29_2, g_29_3, g_29_4, g_29_5, g_29_6, g_29_7, g_29_8, g_29_9, r_30, w_30, r_31, w_31, r_32, w_32, r_33, w_33, r_34, w_34, r_35, w_35, r_36, w_36, o_37, g_37_0, p_37_0, g_37_1, p_37_1, g_37_2, p_37_2, g_37_3, g_37_4, g_37_5, g_37_6, g_37_7, g_37_8, g_37_9, r_38, w_38, r_39, w_39, r_40, w_40, r_41, w_41, r_42, w_42, r_43, w_43, r_44, w_44, o_45, g_45_0, p_45_0, g_45_1, p_45_1, g_45_2, p_45_2, g_45_3, g_45_4, g_45_5, g_45_6, g_45_7, g_45_8, g_45_9, r_46, w_46, r_47, w_47, r_48, w_48, r_49, w_49, r_50, w_50, r_51, w_51, r_52, w_52, o_53, g_53_0, p_53_0, g_53_1, p_53_1, g_53_2, p_53_2, g_53_3, g_53_4, g_53_5, g_53_6, g_53_7, g_53_8, g_53_9, r_54, w_54, r_55, w_55, r_56, w_56, r_57, w_57, r_58, w_58, r_59, w_59, r_60, w_60, o_61, g_61_0, g_61_1, g_61_2, g_61_3, p_61_3, g_61_4, g_61_5, p_61_5, g_61_6, p_61_6, g_61_7, g_61_8, g_61_9, p_61_9, g_61_10, g_61_11, p_61_11, g_61_12, p_61_12, g_61_13, g_61_14, g_61_15, g_61_16, g_61_17, g_61_18, g_61_19, g_61_20, p_61_20, g_61_21, p_61_21, g_61_22, g_61_23, p_61_23, r_62, w_62, r_63, w_63, r_64, w_64, r_65, w_65, r_66, w_66, r_67, w_67, r_68, w_68, r_69, w_69, r_70, w_70, r_71, w_71, r_72, w_72, r_73, w_73, r_74, w_74, r_75, w_75, r_76, w_76, r_77, w_77, Option.bind_some]
theorem fl (hD : DD n s q P tl tx m) (c : Int32) : DD n s q P tl tx (m.sI 61 6 c) ∧ (m.sI 61 6 c).I 61 6 = c ∧ upM m (m.sI 61 6 c) := ⟨DD_61 hD (by omega), by rw [sI_at, if_pos rfl], s61 m 6 c⟩
/-! arguments -/
theorem pt_or (hn : n38 n) (x : Int32) : (∃ i, i < n ∧ x = nI i) ∨ (x < 0 ∨ nI n ≤ x) := by
  have h8 := hn.2
  by_cases c : x < 0
  · exact Or.inr (Or.inl c)
  · by_cases d : nI n ≤ x
    · exact Or.inr (Or.inr d)
    · refine Or.inl ⟨x.toInt.toNat, ?_, ?_⟩
      · rw [Int32.le_iff_toInt_le, nI_toInt (by omega)] at d
        rw [Int32.lt_iff_toInt_lt] at c
        have k : (0 : Int32).toInt = 0 := by decide
        omega
      · refine Int32.toInt_inj.mp ?_
        rw [Int32.lt_iff_toInt_lt] at c
        rw [Int32.le_iff_toInt_le, nI_toInt (by omega)] at d
        have k : (0 : Int32).toInt = 0 := by decide
        rw [nI_toInt (by omega)]
        omega
theorem rp_y (hn : n38 n) (hL : LC n m) {i : Nat} (hi : i < n) : f_X3_requirePoint 0 (nI i) (HH m) = some (.inr ()) := by
  simp only [f_X3_requirePoint, o_0, g_0_0, g_0_1, g_0_2, g_0_3, g_0_4, g_0_5, g_0_6, g_0_7, g_0_8, g_0_9, g_0_10, g_0_11, o_1, g_1_0, g_1_1, g_1_2, g_1_3, g_1_4, g_1_5, g_1_6, g_1_7, g_1_8, g_1_9, r_2, r_3, r_4, r_5, r_6, r_7, r_8, o_9, g_9_0, g_9_1, g_9_2, g_9_3, g_9_4, g_9_5, g_9_6, g_9_7, g_9_8, g_9_9, r_10, r_11, r_12, r_13, r_14, r_15, r_16, o_17, g_17_0, g_17_1, g_17_2, g_17_3, g_17_4, r_18, r_19, r_20, r_22, r_23, r_24, r_25, r_26, r_27, r_28, o_29, g_29_0, g_29_1, g_29_2, g_29_3, g_29_4, g_29_5, g_29_6, g_29_7, g_29_8, g_29_9, r_30, r_31, r_32, r_33, r_34, r_35, r_36, o_37, g_37_0, g_37_1, g_37_2, g_37_3, g_37_4, g_37_5, g_37_6, g_37_7, g_37_8, g_37_9, r_38, r_39, r_40, r_41, r_42, r_43, r_44, o_45, g_45_0, g_45_1, g_45_2, g_45_3, g_45_4, g_45_5, g_45_6, g_45_7, g_45_8, g_45_9, r_46, r_47, r_48, r_49, r_50, r_51, r_52, o_53, g_53_0, g_53_1, g_53_2, g_53_3, g_53_4, g_53_5, g_53_6, g_53_7, g_53_8, g_53_9, r_54, r_55, r_56, r_57, r_58, r_59, r_60, o_61, g_61_0, g_61_1, g_61_2, g_61_3, g_61_4, g_61_5, g_61_6, g_61_7, g_61_8, g_61_9, g_61_10, g_61_11, g_61_12, g_61_13, g_61_14, g_61_15, g_61_16, g_61_17, g_61_18, g_61_19, g_61_20, g_61_21, g_61_22, g_61_23, r_62, r_63, r_64, r_65, r_66, r_67, r_68, r_69, r_70, r_71, r_72, r_73, r_74, r_75, r_76, r_77, Option.bind_some, cl_isP hn hL hi, if_neg (show ¬ (1 : Int32) = 0 by decide)]
theorem rp_n (hL : LC n m) {x : Int32} (hx : x < 0 ∨ nI n ≤ x) : f_X3_requirePoint 0 x (HH m) = some (.inl 1) := by
  simp only [f_X3_requirePoint, o_0, g_0_0, g_0_1, g_0_2, g_0_3, g_0_4, g_0_5, g_0_6, g_0_7, g_0_8, g_0_9, g_0_10, g_0_11, o_1, g_1_0, g_1_1, g_1_2, g_1_3, g_1_4, g_1_5, g_1_6, g_1_7, g_1_8, g_1_9, r_2, r_3, r_4, r_5, r_6, r_7, r_8, o_9, g_9_0, g_9_1, g_9_2, g_9_3, g_9_4, g_9_5, g_9_6, g_9_7, g_9_8, g_9_9, r_10, r_11, r_12, r_13, r_14, r_15, r_16, o_17, g_17_0, g_17_1, g_17_2, g_17_3, g_17_4, r_18, r_19, r_20, r_22, r_23, r_24, r_25, r_26, r_27, r_28, o_29, g_29_0, g_29_1, g_29_2, g_29_3, g_29_4, g_29_5, g_29_6, g_29_7, g_29_8, g_29_9, r_30, r_31, r_32, r_33, r_34, r_35, r_36, o_37, g_37_0, g_37_1, g_37_2, g_37_3, g_37_4, g_37_5, g_37_6, g_37_7, g_37_8, g_37_9, r_38, r_39, r_40, r_41, r_42, r_43, r_44, o_45, g_45_0, g_45_1, g_45_2, g_45_3, g_45_4, g_45_5, g_45_6, g_45_7, g_45_8, g_45_9, r_46, r_47, r_48, r_49, r_50, r_51, r_52, o_53, g_53_0, g_53_1, g_53_2, g_53_3, g_53_4, g_53_5, g_53_6, g_53_7, g_53_8, g_53_9, r_54, r_55, r_56, r_57, r_58, r_59, r_60, o_61, g_61_0, g_61_1, g_61_2, g_61_3, g_61_4, g_61_5, g_61_6, g_61_7, g_61_8, g_61_9, g_61_10, g_61_11, g_61_12, g_61_13, g_61_14, g_61_15, g_61_16, g_61_17, g_61_18, g_61_19, g_61_20, g_61_21, g_61_22, g_61_23, r_62, r_63, r_64, r_65, r_66, r_67, r_68, r_69, r_70, r_71, r_72, r_73, r_74, r_75, r_76, r_77, Option.bind_some, cl_noP hL hx, if_true]
theorem di_y (hn : n38 n) {i j k : Nat} (hi : i < n) (hj : j < n) (hk : k < n) (h1 : i ≠ j) (h2 : i ≠ k) (h3 : j ≠ k) : f_X3_areDistinct (nI i) (nI j) (nI k) = some 1 := by
  unfold f_X3_areDistinct
  rw [if_neg (fun e => h1 ((ne_of hn hi hj).mp e)), if_neg (fun e => h2 ((ne_of hn hi hk).mp e)), if_neg (fun e => h3 ((ne_of hn hj hk).mp e))]
theorem di_n {i j k : Nat} (h : i = j ∨ i = k ∨ j = k) : f_X3_areDistinct (nI i) (nI j) (nI k) = some 0 := by
  unfold f_X3_areDistinct
  by_cases h1 : nI i = nI j
  · rw [if_pos h1]
  · rw [if_neg h1]
    by_cases h2 : nI i = nI k
    · rw [if_pos h2]
    · rw [if_neg h2, if_pos]
      rcases h with e | e | e
      · exact absurd (by rw [e]) h1
      · exact absurd (by rw [e]) h2
      · rw [e]
theorem rd_y (hn : n38 n) {i j k : Nat} (hi : i < n) (hj : j < n) (hk : k < n) (h1 : i ≠ j) (h2 : i ≠ k) (h3 : j ≠ k) : f_X3_requireDistinct (nI i) (nI j) (nI k) = some (.inr ()) := by
  simp only [f_X3_requireDistinct, Option.bind_some, di_y hn hi hj hk h1 h2 h3, if_neg (show ¬ (1 : Int32) = 0 by decide)]
theorem rd_n {i j k : Nat} (h : i = j ∨ i = k ∨ j = k) : f_X3_requireDistinct (nI i) (nI j) (nI k) = some (.inl 0) := by
  simp only [f_X3_requireDistinct, Option.bind_some, di_n h, if_true]
theorem mp_y (hn : n38 n) (h0 : m.I 62 0 = nI n) {i j k : Nat} (hi : i < n) (hj : j < n) (hk : k < n) : f_X4_arePoints 61 (nI i) (nI j) (nI k) (HH m) = some 1 := by
  simp only [f_X4_arePoints, o_0, g_0_0, g_0_1, g_0_2, g_0_3, g_0_4, g_0_5, g_0_6, g_0_7, g_0_8, g_0_9, g_0_10, g_0_11, o_1, g_1_0, g_1_1, g_1_2, g_1_3, g_1_4, g_1_5, g_1_6, g_1_7, g_1_8, g_1_9, r_2, r_3, r_4, r_5, r_6, r_7, r_8, o_9, g_9_0, g_9_1, g_9_2, g_9_3, g_9_4, g_9_5, g_9_6, g_9_7, g_9_8, g_9_9, r_10, r_11, r_12, r_13, r_14, r_15, r_16, o_17, g_17_0, g_17_1, g_17_2, g_17_3, g_17_4, r_18, r_19, r_20, r_22, r_23, r_24, r_25, r_26, r_27, r_28, o_29, g_29_0, g_29_1, g_29_2, g_29_3, g_29_4, g_29_5, g_29_6, g_29_7, g_29_8, g_29_9, r_30, r_31, r_32, r_33, r_34, r_35, r_36, o_37, g_37_0, g_37_1, g_37_2, g_37_3, g_37_4, g_37_5, g_37_6, g_37_7, g_37_8, g_37_9, r_38, r_39, r_40, r_41, r_42, r_43, r_44, o_45, g_45_0, g_45_1, g_45_2, g_45_3, g_45_4, g_45_5, g_45_6, g_45_7, g_45_8, g_45_9, r_46, r_47, r_48, r_49, r_50, r_51, r_52, o_53, g_53_0, g_53_1, g_53_2, g_53_3, g_53_4, g_53_5, g_53_6, g_53_7, g_53_8, g_53_9, r_54, r_55, r_56, r_57, r_58, r_59, r_60, o_61, g_61_0, g_61_1, g_61_2, g_61_3, g_61_4, g_61_5, g_61_6, g_61_7, g_61_8, g_61_9, g_61_10, g_61_11, g_61_12, g_61_13, g_61_14, g_61_15, g_61_16, g_61_17, g_61_18, g_61_19, g_61_20, g_61_21, g_61_22, g_61_23, r_62, r_63, r_64, r_65, r_66, r_67, r_68, r_69, r_70, r_71, r_72, r_73, r_74, r_75, r_76, r_77, Option.bind_some, m_isP hn h0 hi, m_isP hn h0 hj, m_isP hn h0 hk, if_neg (show ¬ (1 : Int32) = 0 by decide)]
theorem mp_n (hn : n38 n) (h0 : m.I 62 0 = nI n) {x y z : Int32} (h : (x < 0 ∨ nI n ≤ x) ∨ (y < 0 ∨ nI n ≤ y) ∨ (z < 0 ∨ nI n ≤ z)) : f_X4_arePoints 61 x y z (HH m) = some 0 := by
  simp only [f_X4_arePoints, o_0, g_0_0, g_0_1, g_0_2, g_0_3, g_0_4, g_0_5, g_0_6, g_0_7, g_0_8, g_0_9, g_0_10, g_0_11, o_1, g_1_0, g_1_1, g_1_2, g_1_3, g_1_4, g_1_5, g_1_6, g_1_7, g_1_8, g_1_9, r_2, r_3, r_4, r_5, r_6, r_7, r_8, o_9, g_9_0, g_9_1, g_9_2, g_9_3, g_9_4, g_9_5, g_9_6, g_9_7, g_9_8, g_9_9, r_10, r_11, r_12, r_13, r_14, r_15, r_16, o_17, g_17_0, g_17_1, g_17_2, g_17_3, g_17_4, r_18, r_19, r_20, r_22, r_23, r_24, r_25, r_26, r_27, r_28, o_29, g_29_0, g_29_1, g_29_2, g_29_3, g_29_4, g_29_5, g_29_6, g_29_7, g_29_8, g_29_9, r_30, r_31, r_32, r_33, r_34, r_35, r_36, o_37, g_37_0, g_37_1, g_37_2, g_37_3, g_37_4, g_37_5, g_37_6, g_37_7, g_37_8, g_37_9, r_38, r_39, r_40, r_41, r_42, r_43, r_44, o_45, g_45_0, g_45_1, g_45_2, g_45_3, g_45_4, g_45_5, g_45_6, g_45_7, g_45_8, g_45_9, r_46, r_47, r_48, r_49, r_50, r_51, r_52, o_53, g_53_0, g_53_1, g_53_2, g_53_3, g_53_4, g_53_5, g_53_6, g_53_7, g_53_8, g_53_9, r_54, r_55, r_56, r_57, r_58, r_59, r_60, o_61, g_61_0, g_61_1, g_61_2, g_61_3, g_61_4, g_61_5, g_61_6, g_61_7, g_61_8, g_61_9, g_61_10, g_61_11, g_61_12, g_61_13, g_61_14, g_61_15, g_61_16, g_61_17, g_61_18, g_61_19, g_61_20, g_61_21, g_61_22, g_61_23, r_62, r_63, r_64, r_65, r_66, r_67, r_68, r_69, r_70, r_71, r_72, r_73, r_74, r_75, r_76, r_77, Option.bind_some]
  rcases pt_or hn x with ⟨i, hi, rfl⟩ | hx
  · rw [m_isP hn h0 hi, Option.bind_some, if_neg (show ¬ (1 : Int32) = 0 by decide)]
    rcases pt_or hn y with ⟨j, hj, rfl⟩ | hy
    · rw [m_isP hn h0 hj, Option.bind_some, if_neg (show ¬ (1 : Int32) = 0 by decide)]
      rcases pt_or hn z with ⟨k, hk, rfl⟩ | hz
      · exfalso
        have h8 := hn.2
        have no : ∀ {i}, i < n → ¬ (nI i < 0 ∨ nI n ≤ nI i) := fun {i} hi q => by
          rcases q with q | q
          · exact nI_pos (by omega) q
          · rw [nI_leI (by omega) (by omega)] at q
            omega
        rcases h with h | h | h
        · exact no hi h
        · exact no hj h
        · exact no hk h
      · rw [m_noP hn h0 hz, Option.bind_some, if_pos rfl]
    · rw [m_noP hn h0 hy, Option.bind_some, if_pos rfl]
  · rw [m_noP hn h0 hx, Option.bind_some, if_pos rfl]
theorem md_y (hn : n38 n) {i j k : Nat} (hi : i < n) (hj : j < n) (hk : k < n) (h1 : i ≠ j) (h2 : i ≠ k) (h3 : j ≠ k) : f_X4_differ (nI i) (nI j) (nI k) = some 1 := di_y hn hi hj hk h1 h2 h3
theorem md_n {i j k : Nat} (h : i = j ∨ i = k ∨ j = k) : f_X4_differ (nI i) (nI j) (nI k) = some 0 := di_n h
/-- the class: saved, then the state of now is another -/
theorem C_now (hC : CC n s M q P PM tl tx m) (b : BB n s M q P PM tl tx) : ∃ m1, f_X3_save 0 (HH m) = some (HH m1) ∧ CC n s M (up4 q) (psh q P s) (psh q PM M) tl tx m1 ∧ upC m m1 := c_saved hC b.1.2.2.1 b.2.1
end Calls
