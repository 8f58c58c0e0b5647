/-! the JDK's own methods on literals -/
section Str
variable {g : GT} {Γ : CT} {cc : ByteArray} {own nm : String} {nL : Nat} {rt : Option FieldType} {lvl mc ms : Nat} {Q : State → Prop} {ce sl pc n : Nat} {lv : List (Nat × Value)} {st : List Value} {h : Hp} {β : Type} {X : β}
theorem eV_K (g : GT) (ad : Nat → Nat) {s : UInt32} (hs : s.toNat < 1000) : eV g ad (.float s) = .ref (g.aK s.toNat) := congrArg Value.ref (if_pos hs)
theorem eV_B (g : GT) (ad : Nat → Nat) {s : UInt32} {k : Nat} (hs : s.toNat = k + 1000) : eV g ad (.float s) = .ref (g.aV k) := by
  show Value.ref (g.aS s.toNat) = _
  rw [hs]
  exact congrArg Value.ref ((if_neg (by omega)).trans (by rw [Nat.add_sub_cancel]))
theorem Cx.S (C : Cx g Γ cc own nm nL rt lvl mc ms) : vkS g Γ.A Γ.s Γ.s.heap := C.ev.2.2.2.2.2.2.2.2.2.1
theorem Cx.cs (C : Cx g Γ cc own nm nL rt lvl mc ms) : va_Z "java/lang/String" "COMPACT_STRINGS" "Z" (.int 1) Γ.A Γ.s Γ.s.heap := C.ev.2.2.2.2.2.2.2.1
theorem Cx.fm (C : Cx g Γ cc own nm nL rt lvl mc ms) : va_Z "jdk/internal/util/Preconditions" "SIOOBE_FORMATTER" "Ljava/util/function/BiFunction;" (va_rf g.fv) Γ.A Γ.s Γ.s.heap := C.ev.2.2.2.2.2.2.2.2.1
theorem U_strV {s b : UInt32} (C : Cx g Γ cc RJ0 nm nL rt lvl mc ms) (d : decode cc pc = .ok (.getfield 9, 3)) (hs : s.toNat < 6) (hb : b.toNat = s.toNat + 1000) (hn : pc + 3 = n) (k : U g Γ nL Q ce sl n lv (.float b :: st) h) : U g Γ nL Q ce sl pc lv (.float s :: st) h := by
  subst hn
  intro ad H locs ls I hL hS hls
  have k2 := k ad H locs ls I hL (wS_cons trivial (wS_tl hS)) hls
  rw [List.map_cons, eV_B g ad hb] at k2
  rw [List.map_cons, eV_K g ad (by omega)]
  exact vk_getf C.x C.b (C.S _ hs).2.2.1 I.2.2.1 C.o (C.w _ fl_RJ0_9) (fun _ h9 => h9) d k2
theorem U_strC {s : UInt32} (C : Cx g Γ cc RJ0 nm nL rt lvl mc ms) (d : decode cc pc = .ok (.getfield 15, 3)) (hs : s.toNat < 6) (hn : pc + 3 = n) (k : U g Γ nL Q ce sl n lv (.int 0 :: st) h) : U g Γ nL Q ce sl pc lv (.float s :: st) h := by
  subst hn
  intro ad H locs ls I hL hS hls
  have k2 := k ad H locs ls I hL (wS_cons trivial (wS_tl hS)) hls
  rw [List.map_cons, eV_K g ad (by omega)]
  exact vk_getf C.x C.b (C.S _ hs).2.1 I.2.2.1 C.o (C.w _ fl_RJ0_15) (fun _ h9 => h9) d k2
theorem U_strZ (C : Cx g Γ cc RJ0 nm nL rt lvl mc ms) (d : decode cc pc = .ok (.getstatic 38, 3)) (hn : pc + 3 = n) (k : U g Γ nL Q ce sl n lv (.int 1 :: st) h) : U g Γ nL Q ce sl pc lv st h := by
  subst hn
  intro ad H locs ls I hL hS hls
  exact va_gets C.x C.b C.cs I.2.2.1 C.o (C.w _ fl_RJ0_38) (fun _ h9 => h9) d (k ad H locs ls I hL (wS_cons trivial hS) hls)
theorem U_strF (C : Cx g Γ cc RJ0 nm nL rt lvl mc ms) (d : decode cc pc = .ok (.getstatic 1053, 3)) (hn : pc + 3 = n) (k : U g Γ nL Q ce sl n lv (.retAddr 1 :: st) h) : U g Γ nL Q ce sl pc lv st h := by
  subst hn
  intro ad H locs ls I hL hS hls
  have k2 := k ad H locs ls I hL (wS_cons trivial hS) hls
  exact va_gets C.x C.b C.fm I.2.2.1 C.o (C.w _ fl_RJ0_1053) (fun _ h9 => h9) d k2
theorem U_strN {b : UInt32} {i : Nat} (C : Cx g Γ cc own nm nL rt lvl mc ms) (d : decode cc pc = .ok (.arraylength, 1)) (hs : i < 6) (hb : b.toNat = i + 1000) (hn : pc + 1 = n) (k : U g Γ nL Q ce sl n lv (.int (Int32.ofNat (lenS.getD i 0)) :: st) h) : U g Γ nL Q ce sl pc lv (.float b :: st) h := by
  subst hn
  intro ad H locs ls I hL hS hls
  rw [List.map_cons, eV_B g ad hb]
  exact va_tlen C.x C.b (C.S _ hs).2.2.2 I.2.2.1 rfl d (k ad H locs ls I hL (wS_cons trivial (wS_tl hS)) hls)
theorem U_strL {b : UInt32} {i : Nat} {x : Int32} (C : Cx g Γ cc own nm nL rt lvl mc ms) (d : decode cc pc = .ok (.baload, 1)) (hs : i < 6) (hb : b.toNat = i + 1000) (hx : vp_in x (lenS.getD i 0)) (hn : pc + 1 = n) (k : U g Γ nL Q ce sl n lv (.int ((bytS.getD i []).getD x.toNatClampNeg 0) :: st) h) : U g Γ nL Q ce sl pc lv (.int x :: .float b :: st) h := by
  subst hn
  intro ad H locs ls I hL hS hls
  show W _ _ _ _ _ _ _ _ _ _ _ _ _ _ _ (F0 _ _ _ (.int x :: eV g ad (.float b) :: st.map (eV g ad)))
  rw [eV_B g ad hb]
  exact va_tb C.x C.b (C.S _ hs).2.2.2 I.2.2.1 hx rfl d (k ad H locs ls I hL (wS_cons trivial (wS_tl (wS_tl hS))) hls)
theorem U_i2c {x : Int32} (C : Cx g Γ cc own nm nL rt lvl mc ms) (d : decode cc pc = .ok (.i2c, 1)) (hn : pc + 1 = n) (k : U g Γ nL Q ce sl n lv (.int (x.toUInt32 % 65536).toInt32 :: st) h) : U g Γ nL Q ce sl pc lv (.int x :: st) h := by
  subst hn
  exact fun ad H locs ls I hL hS hls => lv_i2c C.x C.b d rfl (k ad H locs ls I hL (wS_int (wS_tl hS)) hls)
theorem U_nret {x : Int32} {ty : FieldType} (C : Cx g Γ cc own nm nL (some ty) lvl mc ms) (d : decode cc pc = .ok (.ireturn, 1)) (hx : narrow ty (.int x) = .int x) : U g Γ nL (Qe g Γ (.inr (some (.int x))) h 0 0) 0 0 pc lv [.int x] h := by
  intro ad H locs ls I hL hS hls
  exact W.zret C.x C.b C.rty hx (fun t ht _ => ⟨⟨ad, I.wr ht, rfl, fun v hv => by cases hv; trivial⟩, I.2.2.1.F ht⟩) I.2.2.1.2.2 d C.lk
theorem U_callVs {y : MethodName} {cb : ByteArray} {maxL lvl2 i : Nat} {s : UInt32} {rt2 : Option FieldType} {av : List Value} {r : Option Value} (C : Cx g Γ cc own nm nL rt lvl mc ms) (d : decode cc pc = .ok (.invokevirtual i, 3)) (hl : Cond.methodLink own i y ∈ BW) (hm : MW y cb maxL rt2) (hy : YN y av.length) (hcl : y.cls = "java/lang/String") (hmx : maxL ≤ 21) (hs6 : s.toNat < 6) (hM : CM g y cb maxL rt2 lvl2 0 0 (.float s :: av) h (.inr r) h) (hlv : lvl2 < lvl) (hc : ce ≤ mc) (hs : sl ≤ ms) (hst : (st.map fun v => v.category).sum ≤ 8) (hn : pc + 3 = n) (k : U g Γ nL Q ce sl n lv (r.toList ++ st) h) : U g Γ nL Q ce sl pc lv (av.reverse ++ .float s :: st) h := by
  obtain ⟨m1, m2, m3, m4⟩ := hm
  refine U_run (r := r) (mc2 := 0) (ms2 := 0) (a := ((Value.float s :: av).map (eV g fun x => x)).toArray) C (fun ad H locs ls I hS hz => ?_) (fun m hw v hv => hw v (List.mem_append_right _ (List.mem_cons_of_mem _ hv))) hn k
  have hwa : wS h.length (.float s :: av) := fun v hv => hS v ((List.mem_cons.mp hv).elim (fun e => List.mem_append_right _ (by rw [e]; exact List.mem_cons_self)) (fun e => List.mem_append_left _ (List.mem_reverse.mpr e)))
  have hMet := hM Γ.l ad H.size C.st hwa
  have e := eV_K g ad (s := s) (by omega)
  rw [List.map_cons, e] at hMet
  exact va_runV (C := y.cls) (As := av.map (eV g ad)) (rest := st.map (eV g ad)) (b := g.aK s.toNat) (Ts := BW) ⟨C.x, C.b, C.ml, C.o, C.w⟩ hMet
    (cwV av.length C.w (bw_in (bw_app (bw_4 hl m1 m2 m3) (bw_code2 m4))) rfl rfl rfl ⟨rfl, hy⟩ (C.fit hlv hmx))
    ⟨PreC.blind, by rw [hcl]; exact va_Orecv (C.S _ hs6).1 I.2.2.1, fun s2 hH hW => ⟨rfl, Inv.pre C I hH hW⟩⟩ rfl (by simp) hz (by simp [List.map_append, e]) (lv_room (by simp only [List.map_map]; rw [show ((fun v : Value => v.category) ∘ eV g ad) = fun v => v.category from funext fun v => eV_cat g ad v]; exact hst)) d (C.rm hc hs)
end Str
def sLen (s : UInt32) : Option Int32 := if s.toNat < 6 then some (Int32.ofNat (lenS.getD s.toNat 0)) else none
def sCh (s : UInt32) (i : Int32) : Option Int32 := if s.toNat < 6 ∧ ¬ (i < 0 ∨ lenS.getD s.toNat 0 ≤ i.toNatClampNeg) then some ((bytS.getD s.toNat []).getD i.toNatClampNeg 0) else none
theorem yn_J0_coder : YN yJ0_coder_7d493 0 := ⟨by decide +kernel, by decide +kernel, by decide +kernel⟩
theorem yn_J0_length : YN yJ0_length_8abf5 0 := ⟨by decide +kernel, by decide +kernel, by decide +kernel⟩
theorem yn_J0_isLatin1 : YN yJ0_isLatin1_aae02 0 := ⟨by decide +kernel, by decide +kernel, by decide +kernel⟩
theorem yn_J0_charAt : YN yJ0_charAt_5068e 1 := ⟨by decide +kernel, by decide +kernel, by decide +kernel⟩
theorem yn_J1_charAt : YN yJ1_charAt_3b067 2 := ⟨by decide +kernel, by decide +kernel, by decide +kernel⟩
theorem yn_J0_checkIndex : YN yJ0_checkIndex_df160 2 := ⟨by decide +kernel, by decide +kernel, by decide +kernel⟩
theorem yn_J3_checkIndex : YN yJ3_checkIndex_8e157 3 := ⟨by decide +kernel, by decide +kernel, by decide +kernel⟩
theorem mw_J0_coder : MW yJ0_coder_7d493 cJ0_coder_7d493 1 (some .byte) := ⟨mi_J0_coder_7d493, ms_J0_coder_7d493, in_RJ0, mc_J0_coder_7d493⟩
theorem mw_J0_length : MW yJ0_length_8abf5 cJ0_length_8abf5 1 (some .int) := ⟨mi_J0_length_8abf5, ms_J0_length_8abf5, in_RJ0, mc_J0_length_8abf5⟩
theorem mw_J0_isLatin1 : MW yJ0_isLatin1_aae02 cJ0_isLatin1_aae02 1 (some .boolean) := ⟨mi_J0_isLatin1_aae02, ms_J0_isLatin1_aae02, in_RJ0, mc_J0_isLatin1_aae02⟩
theorem mw_J0_charAt : MW yJ0_charAt_5068e cJ0_charAt_5068e 2 (some .char) := ⟨mi_J0_charAt_5068e, ms_J0_charAt_5068e, in_RJ0, mc_J0_charAt_5068e⟩
theorem mw_J1_charAt : SW yJ1_charAt_3b067 cJ1_charAt_3b067 2 (some .char) := ⟨mt_J1_charAt_3b067, in_RJ1, mc_J1_charAt_3b067⟩
theorem mw_J0_checkIndex : SW yJ0_checkIndex_df160 cJ0_checkIndex_df160 2 none := ⟨mt_J0_checkIndex_df160, in_RJ0, mc_J0_checkIndex_df160⟩
theorem mw_J3_checkIndex : SW yJ3_checkIndex_8e157 cJ3_checkIndex_8e157 3 (some .int) := ⟨mt_J3_checkIndex_8e157, in_RJ3, mc_J3_checkIndex_8e157⟩
theorem b1000 : ∀ i, i < 6 → (UInt32.ofNat (i + 1000)).toNat = i + 1000 := by decide +kernel
theorem M_coder {g : GT} {s : UInt32} {h : Hp} (hs : s.toNat < 6) : CM g yJ0_coder_7d493 cJ0_coder_7d493 1 (some .byte) 1 0 0 [.float s] h (.inr (some (.int 0))) h := by
  refine CM_of rfl (fun _ => Nat.le_of_ble_eq_true rfl) (fun Γ C hn0 => ?_)
  have C : Cx g Γ cJ0_coder_7d493 RJ0 "coder" 1 (some .byte) 1 0 0 := C
  show U g Γ 1 _ 0 0 0 [(0, .float s)] [] h
  refine U_strZ (n := 3) C dJ0_coder_7d493_0 rfl ?_
  refine U_ifeq (tgt := 13) (n := 6) C dJ0_coder_7d493_3 (by decide) rfl (fun c => absurd c (by decide)) (fun c => ?_)
  refine U_aload_n (n := 7) 0 C dJ0_coder_7d493_6 rfl rfl rfl ?_
  refine U_strC (n := 10) C dJ0_coder_7d493_7 hs rfl ?_
  refine U_goto (n := 0) (tgt := 14) C dJ0_coder_7d493_10 (by decide) ?_
  exact U_nret C dJ0_coder_7d493_14 rfl
theorem M_isLatin1 {g : GT} {s : UInt32} {h : Hp} (hs : s.toNat < 6) : CM g yJ0_isLatin1_aae02 cJ0_isLatin1_aae02 1 (some .boolean) 1 0 0 [.float s] h (.inr (some (.int 1))) h := by
  refine CM_of rfl (fun _ => Nat.le_of_ble_eq_true rfl) (fun Γ C hn0 => ?_)
  have C : Cx g Γ cJ0_isLatin1_aae02 RJ0 "isLatin1" 1 (some .boolean) 1 0 0 := C
  show U g Γ 1 _ 0 0 0 [(0, .float s)] [] h
  refine U_strZ (n := 3) C dJ0_isLatin1_aae02_0 rfl ?_
  refine U_ifeq (tgt := 17) (n := 6) C dJ0_isLatin1_aae02_3 (by decide) rfl (fun c => absurd c (by decide)) (fun c => ?_)
  refine U_aload_n (n := 7) 0 C dJ0_isLatin1_aae02_6 rfl rfl rfl ?_
  refine U_strC (n := 10) C dJ0_isLatin1_aae02_7 hs rfl ?_
  refine U_ifne (tgt := 17) (n := 13) C dJ0_isLatin1_aae02_10 (by decide) rfl (fun c => ?_) (fun c => absurd rfl c)
  refine U_iconst (n := 14) (1 : Int32) C dJ0_isLatin1_aae02_13 (by decide) rfl ?_
  refine U_goto (n := 0) (tgt := 18) C dJ0_isLatin1_aae02_14 (by decide) ?_
  exact U_nret C dJ0_isLatin1_aae02_18 rfl
theorem M_length {g : GT} {s : UInt32} {h : Hp} (hs : s.toNat < 6) : CM g yJ0_length_8abf5 cJ0_length_8abf5 1 (some .int) 2 0 0 [.float s] h (.inr (some (.int (Int32.ofNat (lenS.getD s.toNat 0))))) h := by
  refine CM_of rfl (fun _ => Nat.le_of_ble_eq_true rfl) (fun Γ C hn0 => ?_)
  have C : Cx g Γ cJ0_length_8abf5 RJ0 "length" 1 (some .int) 2 0 0 := C
  obtain ⟨b, hb⟩ : ∃ b : UInt32, b.toNat = s.toNat + 1000 := ⟨UInt32.ofNat (s.toNat + 1000), b1000 _ hs⟩
  generalize hQ : Qe g Γ _ h 0 0 = Q
  show U g Γ 1 Q 0 0 0 [(0, .float s)] [] h
  refine U_aload_n (n := 1) 0 C dJ0_length_8abf5_0 rfl rfl rfl ?_
  refine U_strV (n := 4) (b := b) C dJ0_length_8abf5_1 hs hb rfl ?_
  refine U_strN (n := 5) C dJ0_length_8abf5_4 hs hb rfl ?_
  refine U_aload_n (n := 6) 0 C dJ0_length_8abf5_5 rfl rfl rfl ?_
  refine U_callVs (n := 9) (av := []) (r := some (.int 0)) C dJ0_length_8abf5_6 ml_RJ0_335 mw_J0_coder yn_J0_coder rfl (by decide) hs (M_coder hs) (by decide) (Nat.zero_le _) (Nat.zero_le _) (Nat.le_of_ble_eq_true rfl) rfl ?_
  refine U_ishr (n := 10) (y := 0) (st := []) C dJ0_length_8abf5_9 rfl ?_
  subst hQ
  rw [sb_shr0]
  exact U_iret C dJ0_length_8abf5_10 (Nat.le_refl 0) (Nat.le_refl 0)
theorem lg_len (g : GT) (ad : Nat → Nat) : ∀ vs : List Value, (lg_sl (vs.map (eV g ad))).length = (lg_sl vs).length
  | [] => rfl
  | v :: vs => by
    simp only [List.map_cons, lg_sl, List.flatMap_cons, List.length_append, eV_cat]
    have ih := lg_len g ad vs
    simp only [lg_sl] at ih
    rw [ih]
    by_cases h : v.category = 2 <;> simp [h]
theorem M_J3check {g : GT} {i m : Int32} {h : Hp} (h0 : ¬ i < 0) (h1 : i < m) : CM g yJ3_checkIndex_8e157 cJ3_checkIndex_8e157 3 (some .int) 0 0 0 [.int i, .int m, .retAddr 1] h (.inr (some (.int i))) h := by
  refine CM_of rfl (fun ad => by rw [lg_len]; exact Nat.le_of_ble_eq_true rfl) (fun Γ C hn0 => ?_)
  have C : Cx g Γ cJ3_checkIndex_8e157 RJ3 "checkIndex" 3 (some .int) 0 0 0 := C
  show U g Γ 3 _ 0 0 0 [(0, .int i), (1, .int m), (2, .retAddr 1)] [] h
  refine U_iload_n (n := 1) 0 C dJ3_checkIndex_8e157_0 rfl rfl ?_
  refine U_iflt (tgt := 9) (n := 4) C dJ3_checkIndex_8e157_1 (by decide) rfl (fun c => absurd c h0) (fun c => ?_)
  refine U_iload_n (n := 5) 0 C dJ3_checkIndex_8e157_4 rfl rfl ?_
  refine U_iload_n (n := 6) 1 C dJ3_checkIndex_8e157_5 rfl rfl ?_
  refine U_iclt (tgt := 16) (n := 9) C dJ3_checkIndex_8e157_6 (by decide) rfl (fun c => ?_) (fun c => absurd h1 c)
  refine U_iload_n (n := 17) 0 C dJ3_checkIndex_8e157_16 rfl rfl ?_
  exact U_iret C dJ3_checkIndex_8e157_17 (Nat.le_refl 0) (Nat.le_refl 0)
theorem M_J0check {g : GT} {i m : Int32} {h : Hp} (h0 : ¬ i < 0) (h1 : i < m) : CM g yJ0_checkIndex_df160 cJ0_checkIndex_df160 2 none 1 0 0 [.int i, .int m] h (.inr none) h := by
  refine CM_of rfl (fun _ => Nat.le_of_ble_eq_true rfl) (fun Γ C hn0 => ?_)
  have C : Cx g Γ cJ0_checkIndex_df160 RJ0 "checkIndex" 2 none 1 0 0 := C
  show U g Γ 2 _ 0 0 0 [(0, .int i), (1, .int m)] [] h
  refine U_iload_n (n := 1) 0 C dJ0_checkIndex_df160_0 rfl rfl ?_
  refine U_iload_n (n := 2) 1 C dJ0_checkIndex_df160_1 rfl rfl ?_
  refine U_strF (n := 5) C dJ0_checkIndex_df160_2 rfl ?_
  refine U_callS (n := 8) (av := [.int i, .int m, .retAddr 1]) (st := []) (r := some (.int i)) C dJ0_checkIndex_df160_5 ml_RJ0_1059 mw_J3_checkIndex yn_J3_checkIndex (by decide) (M_J3check h0 h1) (by decide) (Nat.zero_le _) (Nat.zero_le _) (Nat.le_of_ble_eq_true rfl) rfl ?_
  refine U_pop (n := 9) (x := .int i) (st := []) C dJ0_checkIndex_df160_8 rfl rfl ?_
  exact U_vret C dJ0_checkIndex_df160_9 (Nat.le_refl 0) (Nat.le_refl 0)
theorem bytS_ok : ∀ i, i < 6 → ∀ k, k < lenS.getD i 0 → ((((bytS.getD i []).getD k 0) &&& 255).toUInt32 % 65536).toInt32 = (bytS.getD i []).getD k 0 ∧ narrow .char (.int ((bytS.getD i []).getD k 0)) = .int ((bytS.getD i []).getD k 0) := by decide +kernel
theorem lenS_lt : ∀ i, i < 6 → lenS.getD i 0 < 7 := by decide +kernel
theorem vp_lt {x : Int32} {N : Nat} (hN : N < 2 ^ 31) (hx : vp_in x N) : ¬ x < 0 ∧ x < Int32.ofNat N := by
  obtain ⟨j, hj, rfl⟩ := vp_in_of hx hN
  exact ⟨nI_pos (by omega), nI_lt hj hN⟩
theorem M_J1charAt {g : GT} {i : Nat} {b : UInt32} {x : Int32} {h : Hp} (hi : i < 6) (hb : b.toNat = i + 1000) (hx : vp_in x (lenS.getD i 0)) : CM g yJ1_charAt_3b067 cJ1_charAt_3b067 2 (some .char) 2 0 0 [.float b, .int x] h (.inr (some (.int ((bytS.getD i []).getD x.toNatClampNeg 0)))) h := by
  refine CM_of rfl (fun _ => Nat.le_of_ble_eq_true rfl) (fun Γ C hn0 => ?_)
  have C : Cx g Γ cJ1_charAt_3b067 RJ1 "charAt" 2 (some .char) 2 0 0 := C
  have hl := lenS_lt i hi
  have hv := vp_lt (by omega) hx
  have hk : x.toNatClampNeg < lenS.getD i 0 := Nat.lt_of_not_le fun z => hx (Or.inr z)
  have ho := bytS_ok i hi _ hk
  generalize hQ : Qe g Γ _ h 0 0 = Q
  show U g Γ 2 Q 0 0 0 [(0, .float b), (1, .int x)] [] h
  refine U_iload_n (n := 1) 1 C dJ1_charAt_3b067_0 rfl rfl ?_
  refine U_aload_n (n := 2) 0 C dJ1_charAt_3b067_1 rfl rfl rfl ?_
  refine U_strN (n := 3) C dJ1_charAt_3b067_2 hi hb rfl ?_
  refine U_callS (n := 6) (av := [.int x, .int (Int32.ofNat (lenS.getD i 0))]) (st := []) (r := none) C dJ1_charAt_3b067_3 ml_RJ1_9 mw_J0_checkIndex yn_J0_checkIndex (by decide) (M_J0check hv.1 hv.2) (by decide) (Nat.zero_le _) (Nat.zero_le _) (Nat.le_of_ble_eq_true rfl) rfl ?_
  show U g Γ 2 Q 0 0 6 [(0, .float b), (1, .int x)] [] h
  refine U_aload_n (n := 7) 0 C dJ1_charAt_3b067_6 rfl rfl rfl ?_
  refine U_iload_n (n := 8) 1 C dJ1_charAt_3b067_7 rfl rfl ?_
  refine U_strL (n := 9) C dJ1_charAt_3b067_8 hi hb hx rfl ?_
  refine U_sipush (n := 12) (255 : Int32) C dJ1_charAt_3b067_9 (by decide) rfl ?_
  refine U_iand (n := 13) C dJ1_charAt_3b067_12 rfl ?_
  refine U_i2c (n := 14) C dJ1_charAt_3b067_13 rfl ?_
  subst hQ
  rw [ho.1]
  exact U_nret C dJ1_charAt_3b067_14 ho.2
theorem M_charAt {g : GT} {s : UInt32} {x : Int32} {h : Hp} (hs : s.toNat < 6) (hx : vp_in x (lenS.getD s.toNat 0)) : CM g yJ0_charAt_5068e cJ0_charAt_5068e 2 (some .char) 3 0 0 [.float s, .int x] h (.inr (some (.int ((bytS.getD s.toNat []).getD x.toNatClampNeg 0)))) h := by
  refine CM_of rfl (fun _ => Nat.le_of_ble_eq_true rfl) (fun Γ C hn0 => ?_)
  have C : Cx g Γ cJ0_charAt_5068e RJ0 "charAt" 2 (some .char) 3 0 0 := C
  obtain ⟨b, hb⟩ : ∃ b : UInt32, b.toNat = s.toNat + 1000 := ⟨UInt32.ofNat (s.toNat + 1000), b1000 _ hs⟩
  have hk : x.toNatClampNeg < lenS.getD s.toNat 0 := Nat.lt_of_not_le fun z => hx (Or.inr z)
  have ho := bytS_ok s.toNat hs _ hk
  show U g Γ 2 _ 0 0 0 [(0, .float s), (1, .int x)] [] h
  refine U_aload_n (n := 1) 0 C dJ0_charAt_5068e_0 rfl rfl rfl ?_
  refine U_callVs (n := 4) (av := []) (st := []) (r := some (.int 1)) C dJ0_charAt_5068e_1 ml_RJ0_492 mw_J0_isLatin1 yn_J0_isLatin1 rfl (by decide) hs (M_isLatin1 hs) (by decide) (Nat.zero_le _) (Nat.zero_le _) (Nat.le_of_ble_eq_true rfl) rfl ?_
  refine U_ifeq (x := 1) (st := []) (tgt := 16) (n := 7) C dJ0_charAt_5068e_4 (by decide) rfl (fun c => absurd c (by decide)) (fun c => ?_)
  refine U_aload_n (n := 8) 0 C dJ0_charAt_5068e_7 rfl rfl rfl ?_
  refine U_strV (n := 11) (b := b) C dJ0_charAt_5068e_8 hs hb rfl ?_
  refine U_iload_n (n := 12) 1 C dJ0_charAt_5068e_11 rfl rfl ?_
  refine U_callS (n := 15) (av := [.float b, .int x]) (st := []) (r := some (.int ((bytS.getD s.toNat []).getD x.toNatClampNeg 0))) C dJ0_charAt_5068e_12 ml_RJ0_495 mw_J1_charAt yn_J1_charAt (by decide) (M_J1charAt hs hb hx) (by decide) (Nat.zero_le _) (Nat.zero_le _) (Nat.le_of_ble_eq_true rfl) rfl ?_
  exact U_nret C dJ0_charAt_5068e_15 ho.2
section Str2
variable {g : GT} {Γ : CT} {cc : ByteArray} {own nm : String} {nL : Nat} {rt : Option FieldType} {lvl mc ms : Nat} {Q : State → Prop} {pc n : Nat} {lv : List (Nat × Value)} {st : List Value} {h : Hp} {β : Type} {X : β}
theorem U_slen {i : Nat} {s : UInt32} {F : Int32 → Option β} (C : Cx g Γ cc own nm nL rt lvl mc ms) (d : decode cc pc = .ok (.invokevirtual i, 3)) (hl : Cond.methodLink own i yJ0_length_8abf5 ∈ BW) (hlv : 2 < lvl) (hst : (st.map fun v => v.category).sum ≤ 8) (hf : (sLen s).bind F = some X) (hn : pc + 3 = n) (kk : ∀ v, F v = some X → U g Γ nL Q 0 0 n lv (.int v :: st) h) : U g Γ nL Q 0 0 pc lv (.float s :: st) h := by
  obtain ⟨v, e, hF⟩ := bsome hf
  unfold sLen at e
  split at e
  · rename_i hs
    cases e
    exact U_callVs (av := []) (r := some (.int _)) C d hl mw_J0_length yn_J0_length rfl (by decide) hs (M_length hs) hlv (Nat.zero_le _) (Nat.zero_le _) hst hn (kk _ hF)
  · cases e
theorem U_sch {i : Nat} {s : UInt32} {x : Int32} {F : Int32 → Option β} (C : Cx g Γ cc own nm nL rt lvl mc ms) (d : decode cc pc = .ok (.invokevirtual i, 3)) (hl : Cond.methodLink own i yJ0_charAt_5068e ∈ BW) (hlv : 3 < lvl) (hst : (st.map fun v => v.category).sum ≤ 8) (hf : (sCh s x).bind F = some X) (hn : pc + 3 = n) (kk : ∀ v, F v = some X → U g Γ nL Q 0 0 n lv (.int v :: st) h) : U g Γ nL Q 0 0 pc lv (.int x :: .float s :: st) h := by
  obtain ⟨v, e, hF⟩ := bsome hf
  unfold sCh at e
  split at e
  · rename_i hs
    cases e
    exact U_callVs (av := [.int x]) (r := some (.int _)) C d hl mw_J0_charAt yn_J0_charAt rfl (by decide) hs.1 (M_charAt hs.1 hs.2) hlv (Nat.zero_le _) (Nat.zero_le _) hst hn (kk _ hF)
  · cases e
end Str2

theorem xfit_0 : Bundle.fit "java/lang/IllegalArgumentException" = true := by decide +kernel
theorem xcl_0 : Cond.classLink RX3 67 "java/lang/IllegalArgumentException" ∈ BW := cl_RX3_67
theorem xin_0 : Cond.initialized "java/lang/IllegalArgumentException" ∈ BW := bw_t 10 (by decide +kernel) rfl
theorem xat_0 : ∀ w ∈ vx_atS RX3 71 "java/lang/IllegalArgumentException" ["java/lang/RuntimeException", "java/lang/Exception"], w ∈ BW ∨ w ∈ NB := by decide +kernel
theorem xgood_0 : ∀ w ∈ Cond.classLink RX3 67 "java/lang/IllegalArgumentException" :: Cond.initialized "java/lang/IllegalArgumentException" :: vx_atS RX3 71 "java/lang/IllegalArgumentException" ["java/lang/RuntimeException", "java/lang/Exception"], vx_ot w = true := by decide +kernel
theorem xfit_1 : Bundle.fit "java/lang/IndexOutOfBoundsException" = true := by decide +kernel
theorem xcl_1 : Cond.classLink RX3 321 "java/lang/IndexOutOfBoundsException" ∈ BW := cl_RX3_321
theorem xin_1 : Cond.initialized "java/lang/IndexOutOfBoundsException" ∈ BW := bw_t 12 (by decide +kernel) rfl
theorem xat_1 : ∀ w ∈ vx_atS RX3 325 "java/lang/IndexOutOfBoundsException" ["java/lang/RuntimeException", "java/lang/Exception"], w ∈ BW ∨ w ∈ NB := by decide +kernel
theorem xgood_1 : ∀ w ∈ Cond.classLink RX3 321 "java/lang/IndexOutOfBoundsException" :: Cond.initialized "java/lang/IndexOutOfBoundsException" :: vx_atS RX3 325 "java/lang/IndexOutOfBoundsException" ["java/lang/RuntimeException", "java/lang/Exception"], vx_ot w = true := by decide +kernel
theorem xfit_2 : Bundle.fit "java/lang/IllegalStateException" = true := by decide +kernel
theorem xcl_2 : Cond.classLink RX3 103 "java/lang/IllegalStateException" ∈ BW := cl_RX3_103
theorem xin_2 : Cond.initialized "java/lang/IllegalStateException" ∈ BW := bw_t 13 (by decide +kernel) rfl
theorem xat_2 : ∀ w ∈ vx_atS RX3 107 "java/lang/IllegalStateException" ["java/lang/RuntimeException", "java/lang/Exception"], w ∈ BW ∨ w ∈ NB := by decide +kernel
theorem xgood_2 : ∀ w ∈ Cond.classLink RX3 103 "java/lang/IllegalStateException" :: Cond.initialized "java/lang/IllegalStateException" :: vx_atS RX3 107 "java/lang/IllegalStateException" ["java/lang/RuntimeException", "java/lang/Exception"], vx_ot w = true := by decide +kernel
theorem xsr_69 : (RX3, 69, "points is out of range") ∈ SR := by decide +kernel
theorem xsr_87 : (RX3, 87, "sign is out of range") ∈ SR := by decide +kernel
theorem xsr_105 : (RX3, 105, "the triple is not given") ∈ SR := by decide +kernel
theorem xsr_132 : (RX3, 132, "the points are equal") ∈ SR := by decide +kernel
theorem xsr_157 : (RX3, 157, "what is out of range") ∈ SR := by decide +kernel
theorem xsr_195 : (RX3, 195, "too many triples are unknown") ∈ SR := by decide +kernel
theorem xsr_201 : (RX3, 201, "a sign is unknown") ∈ SR := by decide +kernel
theorem xsr_206 : (RX3, 206, "a triple is unknown") ∈ SR := by decide +kernel
theorem xsr_214 : (RX3, 214, "a coordinate is out of range") ∈ SR := by decide +kernel
theorem xsr_234 : (RX3, 234, "seed is out of range") ∈ SR := by decide +kernel
theorem xsr_236 : (RX3, 236, "tries is out of range") ∈ SR := by decide +kernel
theorem xsr_238 : (RX3, 238, "range is out of range") ∈ SR := by decide +kernel
theorem xsr_248 : (RX3, 248, "value is out of range") ∈ SR := by decide +kernel
theorem xsr_253 : (RX3, 253, "the script is full") ∈ SR := by decide +kernel
theorem xsr_268 : (RX3, 268, "index is negative") ∈ SR := by decide +kernel
theorem xsr_286 : (RX3, 286, "the undo stack is empty") ∈ SR := by decide +kernel
theorem xsr_323 : (RX3, 323, "there is no such point") ∈ SR := by decide +kernel
theorem xsr_326 : (RX3, 326, "there is no such triple") ∈ SR := by decide +kernel
theorem xsr_328 : (RX3, 328, "there is no such relation") ∈ SR := by decide +kernel
theorem xsr_334 : (RX3, 334, "two of the points are equal") ∈ SR := by decide +kernel
theorem U_slen_RX3_278 {g : GT} {Γ : CT} {cc : ByteArray} {nm : String} {nL : Nat} {rt : Option FieldType} {lvl mc ms : Nat} {Q : State → Prop} {pc n : Nat} {lv : List (Nat × Value)} {st : List Value} {h : Hp} {β : Type} {X : β} {F : Int32 → Option β} {s : UInt32} (C : Cx g Γ cc RX3 nm nL rt lvl mc ms) (d : decode cc pc = .ok (.invokevirtual 278, 3)) (hlv : 3 < lvl) (hst : (st.map fun v => v.category).sum ≤ 8) (hf : (sLen s).bind F = some X) (hn : pc + 3 = n) (kk : ∀ v, F v = some X → U g Γ nL Q 0 0 n lv (.int v :: st) h) : U g Γ nL Q 0 0 pc lv (.float s :: st) h := U_slen C d ml_RX3_278 (by omega) hst hf hn kk
theorem U_sch_RX3_402 {g : GT} {Γ : CT} {cc : ByteArray} {nm : String} {nL : Nat} {rt : Option FieldType} {lvl mc ms : Nat} {Q : State → Prop} {pc n : Nat} {lv : List (Nat × Value)} {st : List Value} {h : Hp} {β : Type} {X : β} {F : Int32 → Option β} {s : UInt32} {x : Int32} (C : Cx g Γ cc RX3 nm nL rt lvl mc ms) (d : decode cc pc = .ok (.invokevirtual 402, 3)) (hlv : 3 < lvl) (hst : (st.map fun v => v.category).sum ≤ 8) (hf : (sCh s x).bind F = some X) (hn : pc + 3 = n) (kk : ∀ v, F v = some X → U g Γ nL Q 0 0 n lv (.int v :: st) h) : U g Γ nL Q 0 0 pc lv (.int x :: .float s :: st) h := U_sch C d ml_RX3_402 hlv hst hf hn kk
theorem U_slen_RX1_63 {g : GT} {Γ : CT} {cc : ByteArray} {nm : String} {nL : Nat} {rt : Option FieldType} {lvl mc ms : Nat} {Q : State → Prop} {pc n : Nat} {lv : List (Nat × Value)} {st : List Value} {h : Hp} {β : Type} {X : β} {F : Int32 → Option β} {s : UInt32} (C : Cx g Γ cc RX1 nm nL rt lvl mc ms) (d : decode cc pc = .ok (.invokevirtual 63, 3)) (hlv : 3 < lvl) (hst : (st.map fun v => v.category).sum ≤ 8) (hf : (sLen s).bind F = some X) (hn : pc + 3 = n) (kk : ∀ v, F v = some X → U g Γ nL Q 0 0 n lv (.int v :: st) h) : U g Γ nL Q 0 0 pc lv (.float s :: st) h := U_slen C d ml_RX1_63 (by omega) hst hf hn kk
theorem U_sch_RX1_68 {g : GT} {Γ : CT} {cc : ByteArray} {nm : String} {nL : Nat} {rt : Option FieldType} {lvl mc ms : Nat} {Q : State → Prop} {pc n : Nat} {lv : List (Nat × Value)} {st : List Value} {h : Hp} {β : Type} {X : β} {F : Int32 → Option β} {s : UInt32} {x : Int32} (C : Cx g Γ cc RX1 nm nL rt lvl mc ms) (d : decode cc pc = .ok (.invokevirtual 68, 3)) (hlv : 3 < lvl) (hst : (st.map fun v => v.category).sum ≤ 8) (hf : (sCh s x).bind F = some X) (hn : pc + 3 = n) (kk : ∀ v, F v = some X → U g Γ nL Q 0 0 n lv (.int v :: st) h) : U g Γ nL Q 0 0 pc lv (.int x :: .float s :: st) h := U_sch C d ml_RX1_68 hlv hst hf hn kk
