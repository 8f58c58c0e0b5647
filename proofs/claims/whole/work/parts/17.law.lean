/-! the law's wrappers: a method with handlers round one call -/
section LawW
variable {g : GT} {Γ : CT} {cc : ByteArray} {own nm : String} {nL : Nat} {rt : Option FieldType} {lvl mc ms mc2 ms2 : Nat} {Q : State → Prop} {ce sl pc n : Nat} {lv : List (Nat × Value)} {st : List Value} {h : Hp} {β : Type} {X : β}
def CMW (g : GT) (y : MethodName) (cc : ByteArray) (maxL : Nat) (hh : List (Nat × Nat × Nat × Nat)) (lvl : Nat) (av : List Value) (h : Hp) (r : Int32) (h2 : Hp) : Prop :=
  ∀ (l : Launch) (ad : Nat → Nat) (sz : Nat), l.stackTraces = false → wS h.length av →
    Met l y (Cond.codeWith y cc maxL (some .int) hh :: BW) { frames := lvl + 12, cells := 1, slots := 6, locals := 40 * lvl + 200 } (va_Pc (av.map (eV g ad)) (PreC g ad h sz)) (PostC g h.length ad h2 (some (.int r)) (va_A (eW g ad h) sz)) 1 6 (va_A (eW g ad h) sz)
theorem CMW_of {y : MethodName} {cc : ByteArray} {maxL : Nat} {hh : List (Nat × Nat × Nat × Nat)} {lvl : Nat} {av : List Value} {h : Hp} {r : Int32} {h2 : Hp} (hy : plainName y.cls = true) (ho : y.cls = RL) (hlen : ∀ ad, (lg_sl (av.map (eV g ad))).length ≤ maxL)
    (body : ∀ Γ, Cx g Γ cc y.cls y.name maxL (some .int) lvl 1 6 → Γ.n0 = h.length → Γ.c.exceptionTable.toList = tableOf hh → U g Γ maxL (Qe g Γ (.inr (some (.int r))) h2 1 6) 0 0 0 (lv_args 0 av) [] h) : CMW g y cc maxL hh lvl av h r h2 := by
  intro l ad sz hl hav
  refine va_MetW (cc := cc) (maxL := maxL) (ret := some .int) (hh := hh) hy rfl ?_
  intro p e s m args below meth c s₁ B hml hv
  obtain ⟨hargs, hsz, hP, hD, hw, hev⟩ := hv
  have hts := atoms_spec (ws := Cond.codeWith y cc maxL (some .int) hh :: BW) B.pre
  have htab : c.exceptionTable.toList = tableOf hh := vx_table (x := y) B (hts _ List.mem_cons_self)
  have C : Cx g ((p, l, e, ({ frames := lvl + 12, cells := 1, slots := 6, locals := 40 * lvl + 200 } : Room), s, m, args, below, meth, c, va_A (eW g ad h) sz, h.length, ad) : CT) cc y.cls y.name maxL (some .int) lvl 1 6 :=
    ⟨B.exec, B.bytes, hml, findClass_of_methodNamed B.named, fun w hw => hts w (List.mem_cons_of_mem _ hw), B.notSynchronized, B.returns, hl, fun q hq => Or.inr (by rw [← hsz]; exact hq), hev, ⟨Nat.le_refl _, Nat.le_refl _, Nat.le_refl _, Nat.le_refl _⟩, (name_of_methodNamed B.named B.method).1, Or.inl ho⟩
  have hle := lv_entry (av.map (eV g ad)) (n := maxL) (hlen ad)
  rw [lv_args_map] at hle
  have K := body _ C rfl htab ad s.heap [] _ ⟨hP, hD.self, va_S.rf, hw, Nat.le_refl _, fun _ _ => rfl⟩ (wL_args av 0 hav) wS_nil hle
  rw [hargs, lg_entry_eq]
  subst hargs
  exact K
/-- a throw out of a call that is caught here -/
theorem U_xcatch (ci k : Nat) {T : u_T} {N : Nat} {y : MethodName} {cb : ByteArray} {maxL lvl2 i o : Nat} {rt2 : Option FieldType} {av : List Value} {h1 : Hp} (pre : List ExceptionTableEntry) (x : ExceptionTableEntry) (suf : List ExceptionTableEntry) (C : Cx g Γ cc RL nm nL rt lvl 1 6) (d : decode cc pc = .ok (.invokevirtual i, 3)) (hl : Cond.methodLink RL i y ∈ BW) (hm : MW y cb maxL rt2) (hy : YN y av.length) (hcl : vwCl[ci]? = some (y.cls, T, N)) (hmx : maxL ≤ 21) (hrc : rc ci h o = some ()) (hM : CM g y cb maxL rt2 lvl2 0 0 (.ref o :: av) h (.inl k) h1) (hlv : lvl2 < lvl) (hst : (st.map fun v => v.category).sum ≤ 8)
    (htab : Γ.c.exceptionTable.toList = pre ++ x :: suf) (hpass : ∀ z ∈ pre, z.catchType ≠ 0 ∧ ∃ t : String, Cond.classLink RL z.catchType t ∈ BW ∧ va_Nc (exN k) t Γ.s) (hx : covers x pc = true) (h0 : x.catchType ≠ 0) (hlink : Cond.classLink RL x.catchType (exN k) ∈ BW) (hcast : Cond.castable (exN k) (exN k) ∈ NB)
    (hend : ∀ (ad : Nat → Nat) (H : Heap) (locs : List Loc) (ls : Array Slot) (q : Nat), Inv g Γ ad h1 H locs → lv_has ls nL [] → W Γ.p Γ.l Γ.e Γ.R Γ.s Γ.m Γ.args Γ.below Γ.meth Γ.c H locs 1 6 Q (F0 Γ.m x.handlerPc ls [.ref q])) : U g Γ nL Q 0 0 pc lv (av.reverse ++ .ref o :: st) h := by
  obtain ⟨m1, m2, m3, m4⟩ := hm
  obtain ⟨fs, hfs⟩ := rc_spec hrc
  intro ad H locs ls I hL hS hls T hT X
  have hwa : wS h.length (.ref o :: av) := fun v hv => hS v ((List.mem_cons.mp hv).elim (fun e => List.mem_append_right _ (by rw [e]; exact List.mem_cons_self)) (fun e => List.mem_append_left _ (List.mem_reverse.mpr e)))
  have hMet := hM Γ.l ad H.size C.st hwa
  have hr := vx_runV (e := Γ.e) (below := Γ.below) (meth := Γ.meth) (H := H) (locs := locs) (cells := 0) (slots := 0) (g := F0 Γ.m pc ls ((av.reverse ++ .ref o :: st).map (eV g ad))) (C := y.cls) (As := av.map (eV g ad)) (rest := st.map (eV g ad)) (b := ad o) (Ts := BW) ⟨C.x, C.b, C.ml, C.o, C.w⟩ hMet
    (cwV av.length C.w (bw_in (bw_app (bw_4 hl m1 m2 m3) (bw_code2 m4))) rfl rfl rfl ⟨rfl, hy⟩ (C.fit hlv hmx))
    ⟨PreC.blind, va_recv C.K I.1 hcl (Inv.get I hfs), fun s2 hH hW => ⟨rfl, Inv.pre C I hH hW⟩⟩ rfl (by simp) hls.1 (by simp [List.map_append, eV]) (lv_room (by simp only [List.map_map]; rw [show ((fun v : Value => v.category) ∘ eV g ad) = fun v => v.category from funext fun v => eV_cat g ad v]; exact hst)) d (C.rm (by decide) (by decide))
  rcases hr T hT X with ⟨v, st₀, t, T', L, h0', X', hLc, e1, e2, hq, go⟩ | ⟨q, st₀, t, T', L, E, ce9, h0', X', hLc, e1, e2, ⟨hE, ⟨ad2, w⟩, hF⟩, hce, hcv, hcl9, go⟩
  · exact hq.elim
  · have I2 := Inv.post C I h0' w hF hLc
    rw [← e1] at I2
    subst hE
    have K := vx_catch (p := Γ.p) (l := Γ.l) (e := Γ.e) (R := Γ.R) (s := Γ.s) (m := Γ.m) (args := Γ.args) (below := Γ.below) (meth := Γ.meth) (c := Γ.c) (H := T'.heap) (locs := locs ++ L) (cells := 1) (slots := 6) (Q := Q) (pc := pc) (ls := ls) (rest := st.map (eV g ad)) (own := RL) (name := exN k) (E := exN k) (ce := ce9) (q := q) C.o pre x suf htab
      (fun z hz => Or.inr ⟨(hpass z hz).1, (hpass z hz).2.imp fun t ht => ⟨C.w _ ht.1, ht.2⟩⟩) hx h0 (C.w _ hlink) (C.nbw hcast) (by rw [e1]; exact hce) hcv hcl9 (hend ad2 T'.heap (locs ++ L) ls q I2 ⟨hls.1, hls.2.1, fun _ h => absurd h List.not_mem_nil⟩)
    obtain ⟨t2, a1, b1⟩ := K T' rfl X'
    exact ⟨t2, go.trans a1, b1⟩
theorem H_n {hp n2 n3 : Nat} {i : Fin 4} {v : Int32} {j : Int} (C : Cx g Γ cc own nm nL (some .int) lvl mc ms) (d1 : decode cc hp = .ok (.astore_n i, 1)) (d2 : decode cc n2 = .ok (.iconst j, 1)) (d3 : decode cc n3 = .ok (.ireturn, 1)) (hn2 : hp + 1 = n2) (hn3 : n2 + 1 = n3) (hb : i.val < nL) (hv : Int32.ofInt j = v) : ∀ (ad : Nat → Nat) (H : Heap) (locs : List Loc) (ls : Array Slot) (q : Nat), Inv g Γ ad h H locs → lv_has ls nL [] → W Γ.p Γ.l Γ.e Γ.R Γ.s Γ.m Γ.args Γ.below Γ.meth Γ.c H locs 1 6 (Qe g Γ (.inr (some (.int v))) h 1 6) (F0 Γ.m hp ls [.ref q]) := by
  subst hn2; subst hn3
  intro ad H locs ls q I hl
  refine lv_astore_n C.x C.b d1 rfl hl hb rfl (fun ls2 hl2 => ?_)
  refine lv_iconst C.x C.b d2 hv ?_
  exact W.iret C.x C.b C.rty (fun t ht _ => ⟨⟨ad, I.wr ht, rfl, fun v hv => by cases hv; trivial⟩, I.2.2.1.F ht⟩) I.2.2.1.2.2 d3 C.lk
theorem H_w {hp n2 n3 : Nat} {i : Nat} {v : Int32} {j : Int} (C : Cx g Γ cc own nm nL (some .int) lvl mc ms) (d1 : decode cc hp = .ok (.astore i, 2)) (d2 : decode cc n2 = .ok (.iconst j, 1)) (d3 : decode cc n3 = .ok (.ireturn, 1)) (hn2 : hp + 2 = n2) (hn3 : n2 + 1 = n3) (hb : i < nL) (hv : Int32.ofInt j = v) : ∀ (ad : Nat → Nat) (H : Heap) (locs : List Loc) (ls : Array Slot) (q : Nat), Inv g Γ ad h H locs → lv_has ls nL [] → W Γ.p Γ.l Γ.e Γ.R Γ.s Γ.m Γ.args Γ.below Γ.meth Γ.c H locs 1 6 (Qe g Γ (.inr (some (.int v))) h 1 6) (F0 Γ.m hp ls [.ref q]) := by
  subst hn2; subst hn3
  intro ad H locs ls q I hl
  refine lv_astore C.x C.b d1 hl hb rfl (fun ls2 hl2 => ?_)
  refine lv_iconst C.x C.b d2 hv ?_
  exact W.iret C.x C.b C.rty (fun t ht _ => ⟨⟨ad, I.wr ht, rfl, fun v hv => by cases hv; trivial⟩, I.2.2.1.F ht⟩) I.2.2.1.2.2 d3 C.lk
theorem U_callSW {y : MethodName} {cb : ByteArray} {maxL lvl2 i : Nat} {hh : List (Nat × Nat × Nat × Nat)} {av : List Value} {h1 : Hp} {r : Int32} (C : Cx g Γ cc own nm nL rt lvl mc ms) (d : decode cc pc = .ok (.invokestatic i, 3)) (hl : Cond.methodLink own i y ∈ BW) (hs1 : Cond.static y ∈ BW) (hs2 : Cond.initialized y.cls ∈ BW) (hs3 : Cond.codeWith y cb maxL (some .int) hh ∈ BW) (hy : YN y av.length) (hmx : maxL ≤ 21) (hM : CMW g y cb maxL hh lvl2 av h r h1) (hlv : lvl2 < lvl) (hc : ce + 1 ≤ mc) (hs : sl + 6 ≤ ms) (hst : (st.map fun v => v.category).sum ≤ 8) (hn : pc + 3 = n) (k : U g Γ nL Q (ce + 1) (sl + 6) n lv (.int r :: st) h1) : U g Γ nL Q ce sl pc lv (av.reverse ++ st) h := by
  refine U_run (r := some (.int r)) (a := (av.map (eV g fun x => x)).toArray) C (fun ad H locs ls I hS hz => ?_) (fun m hw v hv => hw v (List.mem_append_right _ hv)) hn k
  have hwa : wS h.length av := fun v hv => hS v (List.mem_append_left _ (List.mem_reverse.mpr hv))
  have hMet := hM Γ.l ad H.size C.st hwa
  have hbw : ∀ w ∈ (Cond.codeWith y cb maxL (some .int) hh :: BW), w ∈ BW := fun w hw => (List.mem_cons.mp hw).elim (fun e => e ▸ hs3) id
  exact vx_runSW (As := av.map (eV g ad)) (rest := st.map (eV g ad)) (Ts := BW) ⟨C.x, C.b, C.ml, C.o, C.w⟩ hMet
    (vx_cwSW av.length C.w (bw_in (bw_app (bw_3 hl hs1 hs2) hbw)) rfl rfl rfl hy (C.fit hlv hmx))
    ⟨PreC.blind, fun s2 hH hW => ⟨rfl, Inv.pre C I hH hW⟩⟩ rfl (by simp) hz (by simp [List.map_append]) (lv_room (by simp only [List.map_map]; rw [show ((fun v : Value => v.category) ∘ eV g ad) = fun v => v.category from funext fun v => eV_cat g ad v]; exact hst)) d (C.rm hc hs)
/-- the script, read -/
def Scr (g : GT) (Γ : CT) (L : Nat) (xs : Nat → Int32) : Prop := va_X g.b L xs Γ.s Γ.s.heap ∧ g.b < Γ.s.heap.size ∧ ¬ Γ.A g.b
def sR (L : Nat) (xs : Nat → Int32) (i : Int32) : Option Int32 := if i < 0 ∨ L ≤ i.toNatClampNeg then none else some (xs i.toNatClampNeg)
theorem U_sld {L : Nat} {xs : Nat → Int32} {i : Int32} {F : Int32 → Option β} (C : Cx g Γ cc own nm nL rt lvl mc ms) (hX : Scr g Γ L xs) (d : decode cc pc = .ok (.iaload, 1)) (hf : (sR L xs i).bind F = some X) (hn : pc + 1 = n) (kk : ∀ v, F v = some X → U g Γ nL Q ce sl n lv (.int v :: st) h) : U g Γ nL Q ce sl pc lv (.int i :: .retAddr 0 :: st) h := by
  subst hn
  obtain ⟨v, e, hF⟩ := bsome hf
  unfold sR at e
  split at e
  · cases e
  · rename_i hin
    cases e
    intro ad H locs ls I hL hS hls
    exact va_sld C.x C.b hX.1 hX.2.1 hX.2.2 I.2.2.1 hin d (kk _ hF ad H locs ls I hL (wS_int (wS_tl (wS_tl hS))) hls)
theorem U_sln {L : Nat} {xs : Nat → Int32} (C : Cx g Γ cc own nm nL rt lvl mc ms) (hX : Scr g Γ L xs) (d : decode cc pc = .ok (.arraylength, 1)) (hn : pc + 1 = n) (k : U g Γ nL Q ce sl n lv (.int (Int32.ofNat L) :: st) h) : U g Γ nL Q ce sl pc lv (.retAddr 0 :: st) h := by
  subst hn
  intro ad H locs ls I hL hS hls
  exact va_slen C.x C.b hX.1 hX.2.1 hX.2.2 I.2.2.1 d (k ad H locs ls I hL (wS_int (wS_tl hS)) hls)
theorem U_wide {c2 s2 : Nat} (h1 : ce ≤ c2) (h2 : sl ≤ s2) (k : U g Γ nL Q c2 s2 pc lv st h) : U g Γ nL Q ce sl pc lv st h := fun ad H locs ls I hL hS hls => W.widen h1 h2 (k ad H locs ls I hL hS hls)
def bindTW {α β : Type} (a : Option ((Nat ⊕ α) × Hp)) (f1 : Nat → Hp → Option β) (f2 : α → Hp → Option β) : Option β := match a with
  | some (.inl k, h) => f1 k h
  | some (.inr v, h) => f2 v h
  | none => none
theorem bsomeTW {α β : Type} {a : Option ((Nat ⊕ α) × Hp)} {f1 : Nat → Hp → Option β} {f2 : α → Hp → Option β} {b : β} (h : bindTW a f1 f2 = some b) : (∃ k h1, a = some (.inl k, h1) ∧ f1 k h1 = some b) ∨ ∃ v h1, a = some (.inr v, h1) ∧ f2 v h1 = some b := by
  rcases a with _ | ⟨k | v, h1⟩
  · cases h
  · exact Or.inl ⟨k, h1, rfl, h⟩
  · exact Or.inr ⟨v, h1, rfl, h⟩
end LawW

theorem Cx.nc1 {g : GT} {Γ : CT} {cc : ByteArray} {own nm : String} {nL : Nat} {rt : Option FieldType} {lvl mc ms : Nat} (C : Cx g Γ cc own nm nL rt lvl mc ms) : va_Nc "java/lang/IllegalArgumentException" "java/lang/IndexOutOfBoundsException" Γ.s := C.ev.2.2.2.2.2.2.2.2.2.2.1
theorem Cx.nc2 {g : GT} {Γ : CT} {cc : ByteArray} {own nm : String} {nL : Nat} {rt : Option FieldType} {lvl mc ms : Nat} (C : Cx g Γ cc own nm nL rt lvl mc ms) : va_Nc "java/lang/IllegalStateException" "java/lang/IndexOutOfBoundsException" Γ.s := C.ev.2.2.2.2.2.2.2.2.2.2.2.1
theorem Cx.nc3 {g : GT} {Γ : CT} {cc : ByteArray} {own nm : String} {nL : Nat} {rt : Option FieldType} {lvl mc ms : Nat} (C : Cx g Γ cc own nm nL rt lvl mc ms) : va_Nc "java/lang/IllegalStateException" "java/lang/IllegalArgumentException" Γ.s := C.ev.2.2.2.2.2.2.2.2.2.2.2.2
theorem cst_0 : Cond.castable (exN 0) (exN 0) ∈ NB := nb_t 488 (by decide +kernel) rfl
theorem cst_1 : Cond.castable (exN 1) (exN 1) ∈ NB := nb_t 563 (by decide +kernel) rfl
theorem cst_2 : Cond.castable (exN 2) (exN 2) ∈ NB := nb_t 649 (by decide +kernel) rfl
theorem cv_RL_7 {g : GT} {Γ : CT} {cc : ByteArray} {nm : String} {nL : Nat} {rt : Option FieldType} {lvl mc ms : Nat} {Q : State → Prop} {ce sl pc n : Nat} {lv : List (Nat × Value)} {st : List Value} {h : Hp} {o : Nat} {av : List Value} {v : Int32} {h1 : Hp} {lvl2 : Nat} (C : Cx g Γ cc RL nm nL rt lvl mc ms) (d : decode cc pc = .ok (.invokevirtual 7, 3)) (ha : av.length = 1) (hrc : rc 3 h o = some ()) (hM : CM g yX3_begin cX3_begin 2 (some .int) lvl2 0 0 (.ref o :: av) h (.inr (some (.int v))) h1) (hlv : lvl2 < lvl) (hc : ce ≤ mc) (hs : sl ≤ ms) (hst : (st.map fun v => v.category).sum ≤ 8) (hn : pc + 3 = n) (k : U g Γ nL Q ce sl n lv (.int v :: st) h1) : U g Γ nL Q ce sl pc lv (av.reverse ++ .ref o :: st) h := U_callV 3 C d ml_RL_7 mw_X3_begin (by rw [ha]; exact yn_X3_begin) rfl (by decide) hrc hM hlv hc hs hst hn k
theorem cv_RL_15 {g : GT} {Γ : CT} {cc : ByteArray} {nm : String} {nL : Nat} {rt : Option FieldType} {lvl mc ms : Nat} {Q : State → Prop} {ce sl pc n : Nat} {lv : List (Nat × Value)} {st : List Value} {h : Hp} {o : Nat} {av : List Value} {v : Int32} {h1 : Hp} {lvl2 : Nat} (C : Cx g Γ cc RL nm nL rt lvl mc ms) (d : decode cc pc = .ok (.invokevirtual 15, 3)) (ha : av.length = 4) (hrc : rc 3 h o = some ()) (hM : CM g yX3_give cX3_give 6 (some .int) lvl2 0 0 (.ref o :: av) h (.inr (some (.int v))) h1) (hlv : lvl2 < lvl) (hc : ce ≤ mc) (hs : sl ≤ ms) (hst : (st.map fun v => v.category).sum ≤ 8) (hn : pc + 3 = n) (k : U g Γ nL Q ce sl n lv (.int v :: st) h1) : U g Γ nL Q ce sl pc lv (av.reverse ++ .ref o :: st) h := U_callV 3 C d ml_RL_15 mw_X3_give (by rw [ha]; exact yn_X3_give) rfl (by decide) hrc hM hlv hc hs hst hn k
theorem cv_RL_21 {g : GT} {Γ : CT} {cc : ByteArray} {nm : String} {nL : Nat} {rt : Option FieldType} {lvl mc ms : Nat} {Q : State → Prop} {ce sl pc n : Nat} {lv : List (Nat × Value)} {st : List Value} {h : Hp} {o : Nat} {av : List Value} {v : Int32} {h1 : Hp} {lvl2 : Nat} (C : Cx g Γ cc RL nm nL rt lvl mc ms) (d : decode cc pc = .ok (.invokevirtual 21, 3)) (ha : av.length = 3) (hrc : rc 3 h o = some ()) (hM : CM g yX3_drop cX3_drop 6 (some .int) lvl2 0 0 (.ref o :: av) h (.inr (some (.int v))) h1) (hlv : lvl2 < lvl) (hc : ce ≤ mc) (hs : sl ≤ ms) (hst : (st.map fun v => v.category).sum ≤ 8) (hn : pc + 3 = n) (k : U g Γ nL Q ce sl n lv (.int v :: st) h1) : U g Γ nL Q ce sl pc lv (av.reverse ++ .ref o :: st) h := U_callV 3 C d ml_RL_21 mw_X3_drop (by rw [ha]; exact yn_X3_drop) rfl (by decide) hrc hM hlv hc hs hst hn k
theorem cv_RL_27 {g : GT} {Γ : CT} {cc : ByteArray} {nm : String} {nL : Nat} {rt : Option FieldType} {lvl mc ms : Nat} {Q : State → Prop} {ce sl pc n : Nat} {lv : List (Nat × Value)} {st : List Value} {h : Hp} {o : Nat} {av : List Value} {v : Int32} {h1 : Hp} {lvl2 : Nat} (C : Cx g Γ cc RL nm nL rt lvl mc ms) (d : decode cc pc = .ok (.invokevirtual 27, 3)) (ha : av.length = 1) (hrc : rc 3 h o = some ()) (hM : CM g yX3_turn cX3_turn 4 (some .int) lvl2 0 0 (.ref o :: av) h (.inr (some (.int v))) h1) (hlv : lvl2 < lvl) (hc : ce ≤ mc) (hs : sl ≤ ms) (hst : (st.map fun v => v.category).sum ≤ 8) (hn : pc + 3 = n) (k : U g Γ nL Q ce sl n lv (.int v :: st) h1) : U g Γ nL Q ce sl pc lv (av.reverse ++ .ref o :: st) h := U_callV 3 C d ml_RL_27 mw_X3_turn (by rw [ha]; exact yn_X3_turn) rfl (by decide) hrc hM hlv hc hs hst hn k
theorem cv_RL_30 {g : GT} {Γ : CT} {cc : ByteArray} {nm : String} {nL : Nat} {rt : Option FieldType} {lvl mc ms : Nat} {Q : State → Prop} {ce sl pc n : Nat} {lv : List (Nat × Value)} {st : List Value} {h : Hp} {o : Nat} {av : List Value} {v : Int32} {h1 : Hp} {lvl2 : Nat} (C : Cx g Γ cc RL nm nL rt lvl mc ms) (d : decode cc pc = .ok (.invokevirtual 30, 3)) (ha : av.length = 2) (hrc : rc 3 h o = some ()) (hM : CM g yX3_exchange cX3_exchange 3 (some .int) lvl2 0 0 (.ref o :: av) h (.inr (some (.int v))) h1) (hlv : lvl2 < lvl) (hc : ce ≤ mc) (hs : sl ≤ ms) (hst : (st.map fun v => v.category).sum ≤ 8) (hn : pc + 3 = n) (k : U g Γ nL Q ce sl n lv (.int v :: st) h1) : U g Γ nL Q ce sl pc lv (av.reverse ++ .ref o :: st) h := U_callV 3 C d ml_RL_30 mw_X3_exchange (by rw [ha]; exact yn_X3_exchange) rfl (by decide) hrc hM hlv hc hs hst hn k
theorem cv_RL_34 {g : GT} {Γ : CT} {cc : ByteArray} {nm : String} {nL : Nat} {rt : Option FieldType} {lvl mc ms : Nat} {Q : State → Prop} {ce sl pc n : Nat} {lv : List (Nat × Value)} {st : List Value} {h : Hp} {o : Nat} {av : List Value} {v : Int32} {h1 : Hp} {lvl2 : Nat} (C : Cx g Γ cc RL nm nL rt lvl mc ms) (d : decode cc pc = .ok (.invokevirtual 34, 3)) (ha : av.length = 3) (hrc : rc 3 h o = some ()) (hM : CM g yX3_sign cX3_sign 4 (some .int) lvl2 0 0 (.ref o :: av) h (.inr (some (.int v))) h1) (hlv : lvl2 < lvl) (hc : ce ≤ mc) (hs : sl ≤ ms) (hst : (st.map fun v => v.category).sum ≤ 8) (hn : pc + 3 = n) (k : U g Γ nL Q ce sl n lv (.int v :: st) h1) : U g Γ nL Q ce sl pc lv (av.reverse ++ .ref o :: st) h := U_callV 3 C d ml_RL_34 mw_X3_sign (by rw [ha]; exact yn_X3_sign) rfl (by decide) hrc hM hlv hc hs hst hn k
theorem cv_RL_37 {g : GT} {Γ : CT} {cc : ByteArray} {nm : String} {nL : Nat} {rt : Option FieldType} {lvl mc ms : Nat} {Q : State → Prop} {ce sl pc n : Nat} {lv : List (Nat × Value)} {st : List Value} {h : Hp} {o : Nat} {av : List Value} {v : Int32} {h1 : Hp} {lvl2 : Nat} (C : Cx g Γ cc RL nm nL rt lvl mc ms) (d : decode cc pc = .ok (.invokevirtual 37, 3)) (ha : av.length = 2) (hrc : rc 3 h o = some ()) (hM : CM g yX3_triple cX3_triple 3 (some .int) lvl2 0 0 (.ref o :: av) h (.inr (some (.int v))) h1) (hlv : lvl2 < lvl) (hc : ce ≤ mc) (hs : sl ≤ ms) (hst : (st.map fun v => v.category).sum ≤ 8) (hn : pc + 3 = n) (k : U g Γ nL Q ce sl n lv (.int v :: st) h1) : U g Γ nL Q ce sl pc lv (av.reverse ++ .ref o :: st) h := U_callV 3 C d ml_RL_37 mw_X3_triple (by rw [ha]; exact yn_X3_triple) rfl (by decide) hrc hM hlv hc hs hst hn k
theorem cv_RL_40 {g : GT} {Γ : CT} {cc : ByteArray} {nm : String} {nL : Nat} {rt : Option FieldType} {lvl mc ms : Nat} {Q : State → Prop} {ce sl pc n : Nat} {lv : List (Nat × Value)} {st : List Value} {h : Hp} {o : Nat} {av : List Value} {v : Int64} {h1 : Hp} {lvl2 : Nat} (C : Cx g Γ cc RL nm nL rt lvl mc ms) (d : decode cc pc = .ok (.invokevirtual 40, 3)) (ha : av.length = 1) (hrc : rc 3 h o = some ()) (hM : CM g yX3_reasons cX3_reasons 2 (some .long) lvl2 0 0 (.ref o :: av) h (.inr (some (.long v))) h1) (hlv : lvl2 < lvl) (hc : ce ≤ mc) (hs : sl ≤ ms) (hst : (st.map fun v => v.category).sum ≤ 8) (hn : pc + 3 = n) (k : U g Γ nL Q ce sl n lv (.long v :: st) h1) : U g Γ nL Q ce sl pc lv (av.reverse ++ .ref o :: st) h := U_callV 3 C d ml_RL_40 mw_X3_reasons (by rw [ha]; exact yn_X3_reasons) rfl (by decide) hrc hM hlv hc hs hst hn k
theorem cv_RL_44 {g : GT} {Γ : CT} {cc : ByteArray} {nm : String} {nL : Nat} {rt : Option FieldType} {lvl mc ms : Nat} {Q : State → Prop} {ce sl pc n : Nat} {lv : List (Nat × Value)} {st : List Value} {h : Hp} {o : Nat} {av : List Value} {v : Int32} {h1 : Hp} {lvl2 : Nat} (C : Cx g Γ cc RL nm nL rt lvl mc ms) (d : decode cc pc = .ok (.invokevirtual 44, 3)) (ha : av.length = 1) (hrc : rc 3 h o = some ()) (hM : CM g yX3_count cX3_count 2 (some .int) lvl2 0 0 (.ref o :: av) h (.inr (some (.int v))) h1) (hlv : lvl2 < lvl) (hc : ce ≤ mc) (hs : sl ≤ ms) (hst : (st.map fun v => v.category).sum ≤ 8) (hn : pc + 3 = n) (k : U g Γ nL Q ce sl n lv (.int v :: st) h1) : U g Γ nL Q ce sl pc lv (av.reverse ++ .ref o :: st) h := U_callV 3 C d ml_RL_44 mw_X3_count (by rw [ha]; exact yn_X3_count) rfl (by decide) hrc hM hlv hc hs hst hn k
theorem cv_RL_47 {g : GT} {Γ : CT} {cc : ByteArray} {nm : String} {nL : Nat} {rt : Option FieldType} {lvl mc ms : Nat} {Q : State → Prop} {ce sl pc n : Nat} {lv : List (Nat × Value)} {st : List Value} {h : Hp} {o : Nat} {av : List Value} {v : Int32} {h1 : Hp} {lvl2 : Nat} (C : Cx g Γ cc RL nm nL rt lvl mc ms) (d : decode cc pc = .ok (.invokevirtual 47, 3)) (ha : av.length = 2) (hrc : rc 3 h o = some ()) (hM : CM g yX3_relation cX3_relation 3 (some .int) lvl2 0 0 (.ref o :: av) h (.inr (some (.int v))) h1) (hlv : lvl2 < lvl) (hc : ce ≤ mc) (hs : sl ≤ ms) (hst : (st.map fun v => v.category).sum ≤ 8) (hn : pc + 3 = n) (k : U g Γ nL Q ce sl n lv (.int v :: st) h1) : U g Γ nL Q ce sl pc lv (av.reverse ++ .ref o :: st) h := U_callV 3 C d ml_RL_47 mw_X3_relation (by rw [ha]; exact yn_X3_relation) rfl (by decide) hrc hM hlv hc hs hst hn k
theorem cv_RL_50 {g : GT} {Γ : CT} {cc : ByteArray} {nm : String} {nL : Nat} {rt : Option FieldType} {lvl mc ms : Nat} {Q : State → Prop} {ce sl pc n : Nat} {lv : List (Nat × Value)} {st : List Value} {h : Hp} {o : Nat} {av : List Value} {v : Int64} {h1 : Hp} {lvl2 : Nat} (C : Cx g Γ cc RL nm nL rt lvl mc ms) (d : decode cc pc = .ok (.invokevirtual 50, 3)) (ha : av.length = 1) (hrc : rc 3 h o = some ()) (hM : CM g yX3_behind cX3_behind 2 (some .long) lvl2 0 0 (.ref o :: av) h (.inr (some (.long v))) h1) (hlv : lvl2 < lvl) (hc : ce ≤ mc) (hs : sl ≤ ms) (hst : (st.map fun v => v.category).sum ≤ 8) (hn : pc + 3 = n) (k : U g Γ nL Q ce sl n lv (.long v :: st) h1) : U g Γ nL Q ce sl pc lv (av.reverse ++ .ref o :: st) h := U_callV 3 C d ml_RL_50 mw_X3_behind (by rw [ha]; exact yn_X3_behind) rfl (by decide) hrc hM hlv hc hs hst hn k
theorem cv_RL_53 {g : GT} {Γ : CT} {cc : ByteArray} {nm : String} {nL : Nat} {rt : Option FieldType} {lvl mc ms : Nat} {Q : State → Prop} {ce sl pc n : Nat} {lv : List (Nat × Value)} {st : List Value} {h : Hp} {o : Nat} {av : List Value} {v : Int32} {h1 : Hp} {lvl2 : Nat} (C : Cx g Γ cc RL nm nL rt lvl mc ms) (d : decode cc pc = .ok (.invokevirtual 53, 3)) (ha : av.length = 0) (hrc : rc 3 h o = some ()) (hM : CM g yX3_completions cX3_completions 4 (some .int) lvl2 0 0 (.ref o :: av) h (.inr (some (.int v))) h1) (hlv : lvl2 < lvl) (hc : ce ≤ mc) (hs : sl ≤ ms) (hst : (st.map fun v => v.category).sum ≤ 8) (hn : pc + 3 = n) (k : U g Γ nL Q ce sl n lv (.int v :: st) h1) : U g Γ nL Q ce sl pc lv (av.reverse ++ .ref o :: st) h := U_callV 3 C d ml_RL_53 mw_X3_completions (by rw [ha]; exact yn_X3_completions) rfl (by decide) hrc hM hlv hc hs hst hn k
theorem cv_RL_57 {g : GT} {Γ : CT} {cc : ByteArray} {nm : String} {nL : Nat} {rt : Option FieldType} {lvl mc ms : Nat} {Q : State → Prop} {ce sl pc n : Nat} {lv : List (Nat × Value)} {st : List Value} {h : Hp} {o : Nat} {av : List Value} {v : Int32} {h1 : Hp} {lvl2 : Nat} (C : Cx g Γ cc RL nm nL rt lvl mc ms) (d : decode cc pc = .ok (.invokevirtual 57, 3)) (ha : av.length = 2) (hrc : rc 3 h o = some ()) (hM : CM g yX3_cocircuit cX3_cocircuit 7 (some .int) lvl2 0 0 (.ref o :: av) h (.inr (some (.int v))) h1) (hlv : lvl2 < lvl) (hc : ce ≤ mc) (hs : sl ≤ ms) (hst : (st.map fun v => v.category).sum ≤ 8) (hn : pc + 3 = n) (k : U g Γ nL Q ce sl n lv (.int v :: st) h1) : U g Γ nL Q ce sl pc lv (av.reverse ++ .ref o :: st) h := U_callV 3 C d ml_RL_57 mw_X3_cocircuit (by rw [ha]; exact yn_X3_cocircuit) rfl (by decide) hrc hM hlv hc hs hst hn k
theorem cv_RL_60 {g : GT} {Γ : CT} {cc : ByteArray} {nm : String} {nL : Nat} {rt : Option FieldType} {lvl mc ms : Nat} {Q : State → Prop} {ce sl pc n : Nat} {lv : List (Nat × Value)} {st : List Value} {h : Hp} {o : Nat} {av : List Value} {v : Int32} {h1 : Hp} {lvl2 : Nat} (C : Cx g Γ cc RL nm nL rt lvl mc ms) (d : decode cc pc = .ok (.invokevirtual 60, 3)) (ha : av.length = 1) (hrc : rc 3 h o = some ()) (hM : CM g yX3_isExtreme cX3_isExtreme 3 (some .boolean) lvl2 0 0 (.ref o :: av) h (.inr (some (.int v))) h1) (hlv : lvl2 < lvl) (hc : ce ≤ mc) (hs : sl ≤ ms) (hst : (st.map fun v => v.category).sum ≤ 8) (hn : pc + 3 = n) (k : U g Γ nL Q ce sl n lv (.int v :: st) h1) : U g Γ nL Q ce sl pc lv (av.reverse ++ .ref o :: st) h := U_callV 3 C d ml_RL_60 mw_X3_isExtreme (by rw [ha]; exact yn_X3_isExtreme) rfl (by decide) hrc hM hlv hc hs hst hn k
theorem cv_RL_64 {g : GT} {Γ : CT} {cc : ByteArray} {nm : String} {nL : Nat} {rt : Option FieldType} {lvl mc ms : Nat} {Q : State → Prop} {ce sl pc n : Nat} {lv : List (Nat × Value)} {st : List Value} {h : Hp} {o : Nat} {av : List Value} {v : Int32} {h1 : Hp} {lvl2 : Nat} (C : Cx g Γ cc RL nm nL rt lvl mc ms) (d : decode cc pc = .ok (.invokevirtual 64, 3)) (ha : av.length = 0) (hrc : rc 3 h o = some ()) (hM : CM g yX3_lines cX3_lines 5 (some .int) lvl2 0 0 (.ref o :: av) h (.inr (some (.int v))) h1) (hlv : lvl2 < lvl) (hc : ce ≤ mc) (hs : sl ≤ ms) (hst : (st.map fun v => v.category).sum ≤ 8) (hn : pc + 3 = n) (k : U g Γ nL Q ce sl n lv (.int v :: st) h1) : U g Γ nL Q ce sl pc lv (av.reverse ++ .ref o :: st) h := U_callV 3 C d ml_RL_64 mw_X3_lines (by rw [ha]; exact yn_X3_lines) rfl (by decide) hrc hM hlv hc hs hst hn k
theorem cv_RL_67 {g : GT} {Γ : CT} {cc : ByteArray} {nm : String} {nL : Nat} {rt : Option FieldType} {lvl mc ms : Nat} {Q : State → Prop} {ce sl pc n : Nat} {lv : List (Nat × Value)} {st : List Value} {h : Hp} {o : Nat} {av : List Value} {v : Int32} {h1 : Hp} {lvl2 : Nat} (C : Cx g Γ cc RL nm nL rt lvl mc ms) (d : decode cc pc = .ok (.invokevirtual 67, 3)) (ha : av.length = 3) (hrc : rc 3 h o = some ()) (hM : CM g yX3_place cX3_place 5 (some .boolean) lvl2 0 0 (.ref o :: av) h (.inr (some (.int v))) h1) (hlv : lvl2 < lvl) (hc : ce ≤ mc) (hs : sl ≤ ms) (hst : (st.map fun v => v.category).sum ≤ 8) (hn : pc + 3 = n) (k : U g Γ nL Q ce sl n lv (.int v :: st) h1) : U g Γ nL Q ce sl pc lv (av.reverse ++ .ref o :: st) h := U_callV 3 C d ml_RL_67 mw_X3_place (by rw [ha]; exact yn_X3_place) rfl (by decide) hrc hM hlv hc hs hst hn k
theorem cv_RL_71 {g : GT} {Γ : CT} {cc : ByteArray} {nm : String} {nL : Nat} {rt : Option FieldType} {lvl mc ms : Nat} {Q : State → Prop} {ce sl pc n : Nat} {lv : List (Nat × Value)} {st : List Value} {h : Hp} {o : Nat} {av : List Value} {v : Int32} {h1 : Hp} {lvl2 : Nat} (C : Cx g Γ cc RL nm nL rt lvl mc ms) (d : decode cc pc = .ok (.invokevirtual 71, 3)) (ha : av.length = 2) (hrc : rc 3 h o = some ()) (hM : CM g yX3_coordinate cX3_coordinate 3 (some .int) lvl2 0 0 (.ref o :: av) h (.inr (some (.int v))) h1) (hlv : lvl2 < lvl) (hc : ce ≤ mc) (hs : sl ≤ ms) (hst : (st.map fun v => v.category).sum ≤ 8) (hn : pc + 3 = n) (k : U g Γ nL Q ce sl n lv (.int v :: st) h1) : U g Γ nL Q ce sl pc lv (av.reverse ++ .ref o :: st) h := U_callV 3 C d ml_RL_71 mw_X3_coordinate (by rw [ha]; exact yn_X3_coordinate) rfl (by decide) hrc hM hlv hc hs hst hn k
theorem cv_RL_74 {g : GT} {Γ : CT} {cc : ByteArray} {nm : String} {nL : Nat} {rt : Option FieldType} {lvl mc ms : Nat} {Q : State → Prop} {ce sl pc n : Nat} {lv : List (Nat × Value)} {st : List Value} {h : Hp} {o : Nat} {av : List Value} {v : Int32} {h1 : Hp} {lvl2 : Nat} (C : Cx g Γ cc RL nm nL rt lvl mc ms) (d : decode cc pc = .ok (.invokevirtual 74, 3)) (ha : av.length = 3) (hrc : rc 3 h o = some ()) (hM : CM g yX3_scatter cX3_scatter 9 (some .int) lvl2 0 0 (.ref o :: av) h (.inr (some (.int v))) h1) (hlv : lvl2 < lvl) (hc : ce ≤ mc) (hs : sl ≤ ms) (hst : (st.map fun v => v.category).sum ≤ 8) (hn : pc + 3 = n) (k : U g Γ nL Q ce sl n lv (.int v :: st) h1) : U g Γ nL Q ce sl pc lv (av.reverse ++ .ref o :: st) h := U_callV 3 C d ml_RL_74 mw_X3_scatter (by rw [ha]; exact yn_X3_scatter) rfl (by decide) hrc hM hlv hc hs hst hn k
theorem cv_RL_77 {g : GT} {Γ : CT} {cc : ByteArray} {nm : String} {nL : Nat} {rt : Option FieldType} {lvl mc ms : Nat} {Q : State → Prop} {ce sl pc n : Nat} {lv : List (Nat × Value)} {st : List Value} {h : Hp} {o : Nat} {av : List Value} {v : Int32} {h1 : Hp} {lvl2 : Nat} (C : Cx g Γ cc RL nm nL rt lvl mc ms) (d : decode cc pc = .ok (.invokevirtual 77, 3)) (ha : av.length = 1) (hrc : rc 3 h o = some ()) (hM : CM g yX3_type cX3_type 2 (some .int) lvl2 0 0 (.ref o :: av) h (.inr (some (.int v))) h1) (hlv : lvl2 < lvl) (hc : ce ≤ mc) (hs : sl ≤ ms) (hst : (st.map fun v => v.category).sum ≤ 8) (hn : pc + 3 = n) (k : U g Γ nL Q ce sl n lv (.int v :: st) h1) : U g Γ nL Q ce sl pc lv (av.reverse ++ .ref o :: st) h := U_callV 3 C d ml_RL_77 mw_X3_type (by rw [ha]; exact yn_X3_type) rfl (by decide) hrc hM hlv hc hs hst hn k
theorem cv_RL_80 {g : GT} {Γ : CT} {cc : ByteArray} {nm : String} {nL : Nat} {rt : Option FieldType} {lvl mc ms : Nat} {Q : State → Prop} {ce sl pc n : Nat} {lv : List (Nat × Value)} {st : List Value} {h : Hp} {o : Nat} {av : List Value} {v : Int32} {h1 : Hp} {lvl2 : Nat} (C : Cx g Γ cc RL nm nL rt lvl mc ms) (d : decode cc pc = .ok (.invokevirtual 80, 3)) (ha : av.length = 1) (hrc : rc 3 h o = some ()) (hM : CM g yX3_written cX3_written 6 (some .int) lvl2 0 0 (.ref o :: av) h (.inr (some (.int v))) h1) (hlv : lvl2 < lvl) (hc : ce ≤ mc) (hs : sl ≤ ms) (hst : (st.map fun v => v.category).sum ≤ 8) (hn : pc + 3 = n) (k : U g Γ nL Q ce sl n lv (.int v :: st) h1) : U g Γ nL Q ce sl pc lv (av.reverse ++ .ref o :: st) h := U_callV 3 C d ml_RL_80 mw_X3_written (by rw [ha]; exact yn_X3_written) rfl (by decide) hrc hM hlv hc hs hst hn k
theorem cv_RL_83 {g : GT} {Γ : CT} {cc : ByteArray} {nm : String} {nL : Nat} {rt : Option FieldType} {lvl mc ms : Nat} {Q : State → Prop} {ce sl pc n : Nat} {lv : List (Nat × Value)} {st : List Value} {h : Hp} {o : Nat} {av : List Value} {v : Int32} {h1 : Hp} {lvl2 : Nat} (C : Cx g Γ cc RL nm nL rt lvl mc ms) (d : decode cc pc = .ok (.invokevirtual 83, 3)) (ha : av.length = 0) (hrc : rc 3 h o = some ()) (hM : CM g yX3_undo cX3_undo 1 (some .int) lvl2 0 0 (.ref o :: av) h (.inr (some (.int v))) h1) (hlv : lvl2 < lvl) (hc : ce ≤ mc) (hs : sl ≤ ms) (hst : (st.map fun v => v.category).sum ≤ 8) (hn : pc + 3 = n) (k : U g Γ nL Q ce sl n lv (.int v :: st) h1) : U g Γ nL Q ce sl pc lv (av.reverse ++ .ref o :: st) h := U_callV 3 C d ml_RL_83 mw_X3_undo (by rw [ha]; exact yn_X3_undo) rfl (by decide) hrc hM hlv hc hs hst hn k
theorem cv_RL_86 {g : GT} {Γ : CT} {cc : ByteArray} {nm : String} {nL : Nat} {rt : Option FieldType} {lvl mc ms : Nat} {Q : State → Prop} {ce sl pc n : Nat} {lv : List (Nat × Value)} {st : List Value} {h : Hp} {o : Nat} {av : List Value} {h1 : Hp} {lvl2 : Nat} (C : Cx g Γ cc RL nm nL rt lvl mc ms) (d : decode cc pc = .ok (.invokespecial 86, 3)) (ha : av.length = 0) (hM : CM g yX3_init cX3_init 2 none lvl2 60 7667 (.ref o :: av) h (.inr none) h1) (hlv : lvl2 < lvl) (hc : ce + 60 ≤ mc) (hs : sl + 7667 ≤ ms) (hst : (st.map fun v => v.category).sum ≤ 8) (hn : pc + 3 = n) (k : U g Γ nL Q (ce + 60) (sl + 7667) n lv st h1) : U g Γ nL Q ce sl pc lv (av.reverse ++ .ref o :: st) h := U_callI C d ml_RL_86 mw_X3_init (by rw [ha]; exact yn_X3_init) (by decide) hM hlv hc hs hst hn k
theorem cv_RL_89 {g : GT} {Γ : CT} {cc : ByteArray} {nm : String} {nL : Nat} {rt : Option FieldType} {lvl mc ms : Nat} {Q : State → Prop} {ce sl pc n : Nat} {lv : List (Nat × Value)} {st : List Value} {h : Hp} {o : Nat} {av : List Value} {h1 : Hp} {lvl2 : Nat} (C : Cx g Γ cc RL nm nL rt lvl mc ms) (d : decode cc pc = .ok (.invokespecial 89, 3)) (ha : av.length = 0) (hM : CM g yX4_init cX4_init 1 none lvl2 15 3839 (.ref o :: av) h (.inr none) h1) (hlv : lvl2 < lvl) (hc : ce + 15 ≤ mc) (hs : sl + 3839 ≤ ms) (hst : (st.map fun v => v.category).sum ≤ 8) (hn : pc + 3 = n) (k : U g Γ nL Q (ce + 15) (sl + 3839) n lv st h1) : U g Γ nL Q ce sl pc lv (av.reverse ++ .ref o :: st) h := U_callI C d ml_RL_89 mw_X4_init (by rw [ha]; exact yn_X4_init) (by decide) hM hlv hc hs hst hn k
theorem cv_RL_95 {g : GT} {Γ : CT} {cc : ByteArray} {nm : String} {nL : Nat} {rt : Option FieldType} {lvl mc ms : Nat} {Q : State → Prop} {ce sl pc n : Nat} {lv : List (Nat × Value)} {st : List Value} {h : Hp} {o : Nat} {av : List Value} {v : Int32} {h1 : Hp} {lvl2 : Nat} (C : Cx g Γ cc RL nm nL rt lvl mc ms) (d : decode cc pc = .ok (.invokevirtual 95, 3)) (ha : av.length = 1) (hrc : rc 4 h o = some ()) (hM : CM g yX4_begin cX4_begin 2 (some .int) lvl2 0 0 (.ref o :: av) h (.inr (some (.int v))) h1) (hlv : lvl2 < lvl) (hc : ce ≤ mc) (hs : sl ≤ ms) (hst : (st.map fun v => v.category).sum ≤ 8) (hn : pc + 3 = n) (k : U g Γ nL Q ce sl n lv (.int v :: st) h1) : U g Γ nL Q ce sl pc lv (av.reverse ++ .ref o :: st) h := U_callV 4 C d ml_RL_95 mw_X4_begin (by rw [ha]; exact yn_X4_begin) rfl (by decide) hrc hM hlv hc hs hst hn k
theorem cv_RL_96 {g : GT} {Γ : CT} {cc : ByteArray} {nm : String} {nL : Nat} {rt : Option FieldType} {lvl mc ms : Nat} {Q : State → Prop} {ce sl pc n : Nat} {lv : List (Nat × Value)} {st : List Value} {h : Hp} {o : Nat} {av : List Value} {v : Int32} {h1 : Hp} {lvl2 : Nat} (C : Cx g Γ cc RL nm nL rt lvl mc ms) (d : decode cc pc = .ok (.invokevirtual 96, 3)) (ha : av.length = 0) (hrc : rc 4 h o = some ()) (hM : CM g yX4_thrown cX4_thrown 1 (some .int) lvl2 0 0 (.ref o :: av) h (.inr (some (.int v))) h1) (hlv : lvl2 < lvl) (hc : ce ≤ mc) (hs : sl ≤ ms) (hst : (st.map fun v => v.category).sum ≤ 8) (hn : pc + 3 = n) (k : U g Γ nL Q ce sl n lv (.int v :: st) h1) : U g Γ nL Q ce sl pc lv (av.reverse ++ .ref o :: st) h := U_callV 4 C d ml_RL_96 mw_X4_thrown (by rw [ha]; exact yn_X4_thrown) rfl (by decide) hrc hM hlv hc hs hst hn k
theorem cv_RL_102 {g : GT} {Γ : CT} {cc : ByteArray} {nm : String} {nL : Nat} {rt : Option FieldType} {lvl mc ms : Nat} {Q : State → Prop} {ce sl pc n : Nat} {lv : List (Nat × Value)} {st : List Value} {h : Hp} {o : Nat} {av : List Value} {v : Int32} {h1 : Hp} {lvl2 : Nat} (C : Cx g Γ cc RL nm nL rt lvl mc ms) (d : decode cc pc = .ok (.invokevirtual 102, 3)) (ha : av.length = 4) (hrc : rc 4 h o = some ()) (hM : CM g yX4_give cX4_give 5 (some .int) lvl2 0 0 (.ref o :: av) h (.inr (some (.int v))) h1) (hlv : lvl2 < lvl) (hc : ce ≤ mc) (hs : sl ≤ ms) (hst : (st.map fun v => v.category).sum ≤ 8) (hn : pc + 3 = n) (k : U g Γ nL Q ce sl n lv (.int v :: st) h1) : U g Γ nL Q ce sl pc lv (av.reverse ++ .ref o :: st) h := U_callV 4 C d ml_RL_102 mw_X4_give (by rw [ha]; exact yn_X4_give) rfl (by decide) hrc hM hlv hc hs hst hn k
theorem cv_RL_106 {g : GT} {Γ : CT} {cc : ByteArray} {nm : String} {nL : Nat} {rt : Option FieldType} {lvl mc ms : Nat} {Q : State → Prop} {ce sl pc n : Nat} {lv : List (Nat × Value)} {st : List Value} {h : Hp} {o : Nat} {av : List Value} {v : Int32} {h1 : Hp} {lvl2 : Nat} (C : Cx g Γ cc RL nm nL rt lvl mc ms) (d : decode cc pc = .ok (.invokevirtual 106, 3)) (ha : av.length = 3) (hrc : rc 4 h o = some ()) (hM : CM g yX4_drop cX4_drop 4 (some .int) lvl2 0 0 (.ref o :: av) h (.inr (some (.int v))) h1) (hlv : lvl2 < lvl) (hc : ce ≤ mc) (hs : sl ≤ ms) (hst : (st.map fun v => v.category).sum ≤ 8) (hn : pc + 3 = n) (k : U g Γ nL Q ce sl n lv (.int v :: st) h1) : U g Γ nL Q ce sl pc lv (av.reverse ++ .ref o :: st) h := U_callV 4 C d ml_RL_106 mw_X4_drop (by rw [ha]; exact yn_X4_drop) rfl (by decide) hrc hM hlv hc hs hst hn k
theorem cv_RL_107 {g : GT} {Γ : CT} {cc : ByteArray} {nm : String} {nL : Nat} {rt : Option FieldType} {lvl mc ms : Nat} {Q : State → Prop} {ce sl pc n : Nat} {lv : List (Nat × Value)} {st : List Value} {h : Hp} {o : Nat} {av : List Value} {v : Int32} {h1 : Hp} {lvl2 : Nat} (C : Cx g Γ cc RL nm nL rt lvl mc ms) (d : decode cc pc = .ok (.invokevirtual 107, 3)) (ha : av.length = 1) (hrc : rc 3 h o = some ()) (hM : CM g yX3_setUniform cX3_setUniform 3 (some .boolean) lvl2 0 0 (.ref o :: av) h (.inr (some (.int v))) h1) (hlv : lvl2 < lvl) (hc : ce ≤ mc) (hs : sl ≤ ms) (hst : (st.map fun v => v.category).sum ≤ 8) (hn : pc + 3 = n) (k : U g Γ nL Q ce sl n lv (.int v :: st) h1) : U g Γ nL Q ce sl pc lv (av.reverse ++ .ref o :: st) h := U_callV 3 C d ml_RL_107 mw_X3_setUniform (by rw [ha]; exact yn_X3_setUniform) rfl (by decide) hrc hM hlv hc hs hst hn k
theorem cv_RL_111 {g : GT} {Γ : CT} {cc : ByteArray} {nm : String} {nL : Nat} {rt : Option FieldType} {lvl mc ms : Nat} {Q : State → Prop} {ce sl pc n : Nat} {lv : List (Nat × Value)} {st : List Value} {h : Hp} {o : Nat} {av : List Value} {v : Int32} {h1 : Hp} {lvl2 : Nat} (C : Cx g Γ cc RL nm nL rt lvl mc ms) (d : decode cc pc = .ok (.invokevirtual 111, 3)) (ha : av.length = 1) (hrc : rc 4 h o = some ()) (hM : CM g yX4_setUniform cX4_setUniform 4 (some .boolean) lvl2 0 0 (.ref o :: av) h (.inr (some (.int v))) h1) (hlv : lvl2 < lvl) (hc : ce ≤ mc) (hs : sl ≤ ms) (hst : (st.map fun v => v.category).sum ≤ 8) (hn : pc + 3 = n) (k : U g Γ nL Q ce sl n lv (.int v :: st) h1) : U g Γ nL Q ce sl pc lv (av.reverse ++ .ref o :: st) h := U_callV 4 C d ml_RL_111 mw_X4_setUniform (by rw [ha]; exact yn_X4_setUniform) rfl (by decide) hrc hM hlv hc hs hst hn k
theorem cv_RL_112 {g : GT} {Γ : CT} {cc : ByteArray} {nm : String} {nL : Nat} {rt : Option FieldType} {lvl mc ms : Nat} {Q : State → Prop} {ce sl pc n : Nat} {lv : List (Nat × Value)} {st : List Value} {h : Hp} {o : Nat} {av : List Value} {v : Int32} {h1 : Hp} {lvl2 : Nat} (C : Cx g Γ cc RL nm nL rt lvl mc ms) (d : decode cc pc = .ok (.invokevirtual 112, 3)) (ha : av.length = 0) (hrc : rc 3 h o = some ()) (hM : CM g yX3_derive cX3_derive 1 (some .int) lvl2 0 0 (.ref o :: av) h (.inr (some (.int v))) h1) (hlv : lvl2 < lvl) (hc : ce ≤ mc) (hs : sl ≤ ms) (hst : (st.map fun v => v.category).sum ≤ 8) (hn : pc + 3 = n) (k : U g Γ nL Q ce sl n lv (.int v :: st) h1) : U g Γ nL Q ce sl pc lv (av.reverse ++ .ref o :: st) h := U_callV 3 C d ml_RL_112 mw_X3_derive (by rw [ha]; exact yn_X3_derive) rfl (by decide) hrc hM hlv hc hs hst hn k
theorem cv_RL_115 {g : GT} {Γ : CT} {cc : ByteArray} {nm : String} {nL : Nat} {rt : Option FieldType} {lvl mc ms : Nat} {Q : State → Prop} {ce sl pc n : Nat} {lv : List (Nat × Value)} {st : List Value} {h : Hp} {o : Nat} {av : List Value} {v : Int32} {h1 : Hp} {lvl2 : Nat} (C : Cx g Γ cc RL nm nL rt lvl mc ms) (d : decode cc pc = .ok (.invokevirtual 115, 3)) (ha : av.length = 0) (hrc : rc 4 h o = some ()) (hM : CM g yX4_derive cX4_derive 1 (some .int) lvl2 0 0 (.ref o :: av) h (.inr (some (.int v))) h1) (hlv : lvl2 < lvl) (hc : ce ≤ mc) (hs : sl ≤ ms) (hst : (st.map fun v => v.category).sum ≤ 8) (hn : pc + 3 = n) (k : U g Γ nL Q ce sl n lv (.int v :: st) h1) : U g Γ nL Q ce sl pc lv (av.reverse ++ .ref o :: st) h := U_callV 4 C d ml_RL_115 mw_X4_derive (by rw [ha]; exact yn_X4_derive) rfl (by decide) hrc hM hlv hc hs hst hn k
theorem cv_RL_116 {g : GT} {Γ : CT} {cc : ByteArray} {nm : String} {nL : Nat} {rt : Option FieldType} {lvl mc ms : Nat} {Q : State → Prop} {ce sl pc n : Nat} {lv : List (Nat × Value)} {st : List Value} {h : Hp} {o : Nat} {av : List Value} {v : Int32} {h1 : Hp} {lvl2 : Nat} (C : Cx g Γ cc RL nm nL rt lvl mc ms) (d : decode cc pc = .ok (.invokevirtual 116, 3)) (ha : av.length = 0) (hrc : rc 3 h o = some ()) (hM : CM g yX3_forget cX3_forget 1 (some .int) lvl2 0 0 (.ref o :: av) h (.inr (some (.int v))) h1) (hlv : lvl2 < lvl) (hc : ce ≤ mc) (hs : sl ≤ ms) (hst : (st.map fun v => v.category).sum ≤ 8) (hn : pc + 3 = n) (k : U g Γ nL Q ce sl n lv (.int v :: st) h1) : U g Γ nL Q ce sl pc lv (av.reverse ++ .ref o :: st) h := U_callV 3 C d ml_RL_116 mw_X3_forget (by rw [ha]; exact yn_X3_forget) rfl (by decide) hrc hM hlv hc hs hst hn k
theorem cv_RL_119 {g : GT} {Γ : CT} {cc : ByteArray} {nm : String} {nL : Nat} {rt : Option FieldType} {lvl mc ms : Nat} {Q : State → Prop} {ce sl pc n : Nat} {lv : List (Nat × Value)} {st : List Value} {h : Hp} {o : Nat} {av : List Value} {v : Int32} {h1 : Hp} {lvl2 : Nat} (C : Cx g Γ cc RL nm nL rt lvl mc ms) (d : decode cc pc = .ok (.invokevirtual 119, 3)) (ha : av.length = 0) (hrc : rc 4 h o = some ()) (hM : CM g yX4_forget cX4_forget 1 (some .int) lvl2 0 0 (.ref o :: av) h (.inr (some (.int v))) h1) (hlv : lvl2 < lvl) (hc : ce ≤ mc) (hs : sl ≤ ms) (hst : (st.map fun v => v.category).sum ≤ 8) (hn : pc + 3 = n) (k : U g Γ nL Q ce sl n lv (.int v :: st) h1) : U g Γ nL Q ce sl pc lv (av.reverse ++ .ref o :: st) h := U_callV 4 C d ml_RL_119 mw_X4_forget (by rw [ha]; exact yn_X4_forget) rfl (by decide) hrc hM hlv hc hs hst hn k
theorem cv_RL_120 {g : GT} {Γ : CT} {cc : ByteArray} {nm : String} {nL : Nat} {rt : Option FieldType} {lvl mc ms : Nat} {Q : State → Prop} {ce sl pc n : Nat} {lv : List (Nat × Value)} {st : List Value} {h : Hp} {o : Nat} {av : List Value} {v : Int32} {h1 : Hp} {lvl2 : Nat} (C : Cx g Γ cc RL nm nL rt lvl mc ms) (d : decode cc pc = .ok (.invokevirtual 120, 3)) (ha : av.length = 0) (hrc : rc 3 h o = some ()) (hM : CM g yX3_mirror cX3_mirror 1 (some .int) lvl2 0 0 (.ref o :: av) h (.inr (some (.int v))) h1) (hlv : lvl2 < lvl) (hc : ce ≤ mc) (hs : sl ≤ ms) (hst : (st.map fun v => v.category).sum ≤ 8) (hn : pc + 3 = n) (k : U g Γ nL Q ce sl n lv (.int v :: st) h1) : U g Γ nL Q ce sl pc lv (av.reverse ++ .ref o :: st) h := U_callV 3 C d ml_RL_120 mw_X3_mirror (by rw [ha]; exact yn_X3_mirror) rfl (by decide) hrc hM hlv hc hs hst hn k
theorem cv_RL_123 {g : GT} {Γ : CT} {cc : ByteArray} {nm : String} {nL : Nat} {rt : Option FieldType} {lvl mc ms : Nat} {Q : State → Prop} {ce sl pc n : Nat} {lv : List (Nat × Value)} {st : List Value} {h : Hp} {o : Nat} {av : List Value} {v : Int32} {h1 : Hp} {lvl2 : Nat} (C : Cx g Γ cc RL nm nL rt lvl mc ms) (d : decode cc pc = .ok (.invokevirtual 123, 3)) (ha : av.length = 0) (hrc : rc 4 h o = some ()) (hM : CM g yX4_mirror cX4_mirror 1 (some .int) lvl2 0 0 (.ref o :: av) h (.inr (some (.int v))) h1) (hlv : lvl2 < lvl) (hc : ce ≤ mc) (hs : sl ≤ ms) (hst : (st.map fun v => v.category).sum ≤ 8) (hn : pc + 3 = n) (k : U g Γ nL Q ce sl n lv (.int v :: st) h1) : U g Γ nL Q ce sl pc lv (av.reverse ++ .ref o :: st) h := U_callV 4 C d ml_RL_123 mw_X4_mirror (by rw [ha]; exact yn_X4_mirror) rfl (by decide) hrc hM hlv hc hs hst hn k
theorem cv_RL_126 {g : GT} {Γ : CT} {cc : ByteArray} {nm : String} {nL : Nat} {rt : Option FieldType} {lvl mc ms : Nat} {Q : State → Prop} {ce sl pc n : Nat} {lv : List (Nat × Value)} {st : List Value} {h : Hp} {o : Nat} {av : List Value} {v : Int32} {h1 : Hp} {lvl2 : Nat} (C : Cx g Γ cc RL nm nL rt lvl mc ms) (d : decode cc pc = .ok (.invokevirtual 126, 3)) (ha : av.length = 1) (hrc : rc 4 h o = some ()) (hM : CM g yX4_turn cX4_turn 2 (some .int) lvl2 0 0 (.ref o :: av) h (.inr (some (.int v))) h1) (hlv : lvl2 < lvl) (hc : ce ≤ mc) (hs : sl ≤ ms) (hst : (st.map fun v => v.category).sum ≤ 8) (hn : pc + 3 = n) (k : U g Γ nL Q ce sl n lv (.int v :: st) h1) : U g Γ nL Q ce sl pc lv (av.reverse ++ .ref o :: st) h := U_callV 4 C d ml_RL_126 mw_X4_turn (by rw [ha]; exact yn_X4_turn) rfl (by decide) hrc hM hlv hc hs hst hn k
theorem cv_RL_130 {g : GT} {Γ : CT} {cc : ByteArray} {nm : String} {nL : Nat} {rt : Option FieldType} {lvl mc ms : Nat} {Q : State → Prop} {ce sl pc n : Nat} {lv : List (Nat × Value)} {st : List Value} {h : Hp} {o : Nat} {av : List Value} {v : Int32} {h1 : Hp} {lvl2 : Nat} (C : Cx g Γ cc RL nm nL rt lvl mc ms) (d : decode cc pc = .ok (.invokevirtual 130, 3)) (ha : av.length = 2) (hrc : rc 4 h o = some ()) (hM : CM g yX4_exchange cX4_exchange 6 (some .int) lvl2 0 0 (.ref o :: av) h (.inr (some (.int v))) h1) (hlv : lvl2 < lvl) (hc : ce ≤ mc) (hs : sl ≤ ms) (hst : (st.map fun v => v.category).sum ≤ 8) (hn : pc + 3 = n) (k : U g Γ nL Q ce sl n lv (.int v :: st) h1) : U g Γ nL Q ce sl pc lv (av.reverse ++ .ref o :: st) h := U_callV 4 C d ml_RL_130 mw_X4_exchange (by rw [ha]; exact yn_X4_exchange) rfl (by decide) hrc hM hlv hc hs hst hn k
theorem cv_RL_133 {g : GT} {Γ : CT} {cc : ByteArray} {nm : String} {nL : Nat} {rt : Option FieldType} {lvl mc ms : Nat} {Q : State → Prop} {ce sl pc n : Nat} {lv : List (Nat × Value)} {st : List Value} {h : Hp} {o : Nat} {av : List Value} {v : Int32} {h1 : Hp} {lvl2 : Nat} (C : Cx g Γ cc RL nm nL rt lvl mc ms) (d : decode cc pc = .ok (.invokevirtual 133, 3)) (ha : av.length = 3) (hrc : rc 4 h o = some ()) (hM : CM g yX4_sign cX4_sign 4 (some .int) lvl2 0 0 (.ref o :: av) h (.inr (some (.int v))) h1) (hlv : lvl2 < lvl) (hc : ce ≤ mc) (hs : sl ≤ ms) (hst : (st.map fun v => v.category).sum ≤ 8) (hn : pc + 3 = n) (k : U g Γ nL Q ce sl n lv (.int v :: st) h1) : U g Γ nL Q ce sl pc lv (av.reverse ++ .ref o :: st) h := U_callV 4 C d ml_RL_133 mw_X4_sign (by rw [ha]; exact yn_X4_sign) rfl (by decide) hrc hM hlv hc hs hst hn k
theorem cv_RL_136 {g : GT} {Γ : CT} {cc : ByteArray} {nm : String} {nL : Nat} {rt : Option FieldType} {lvl mc ms : Nat} {Q : State → Prop} {ce sl pc n : Nat} {lv : List (Nat × Value)} {st : List Value} {h : Hp} {o : Nat} {av : List Value} {v : Int32} {h1 : Hp} {lvl2 : Nat} (C : Cx g Γ cc RL nm nL rt lvl mc ms) (d : decode cc pc = .ok (.invokevirtual 136, 3)) (ha : av.length = 2) (hrc : rc 4 h o = some ()) (hM : CM g yX4_triple cX4_triple 3 (some .int) lvl2 0 0 (.ref o :: av) h (.inr (some (.int v))) h1) (hlv : lvl2 < lvl) (hc : ce ≤ mc) (hs : sl ≤ ms) (hst : (st.map fun v => v.category).sum ≤ 8) (hn : pc + 3 = n) (k : U g Γ nL Q ce sl n lv (.int v :: st) h1) : U g Γ nL Q ce sl pc lv (av.reverse ++ .ref o :: st) h := U_callV 4 C d ml_RL_136 mw_X4_triple (by rw [ha]; exact yn_X4_triple) rfl (by decide) hrc hM hlv hc hs hst hn k
theorem cv_RL_139 {g : GT} {Γ : CT} {cc : ByteArray} {nm : String} {nL : Nat} {rt : Option FieldType} {lvl mc ms : Nat} {Q : State → Prop} {ce sl pc n : Nat} {lv : List (Nat × Value)} {st : List Value} {h : Hp} {o : Nat} {av : List Value} {v : Int64} {h1 : Hp} {lvl2 : Nat} (C : Cx g Γ cc RL nm nL rt lvl mc ms) (d : decode cc pc = .ok (.invokevirtual 139, 3)) (ha : av.length = 1) (hrc : rc 4 h o = some ()) (hM : CM g yX4_reasons cX4_reasons 2 (some .long) lvl2 0 0 (.ref o :: av) h (.inr (some (.long v))) h1) (hlv : lvl2 < lvl) (hc : ce ≤ mc) (hs : sl ≤ ms) (hst : (st.map fun v => v.category).sum ≤ 8) (hn : pc + 3 = n) (k : U g Γ nL Q ce sl n lv (.long v :: st) h1) : U g Γ nL Q ce sl pc lv (av.reverse ++ .ref o :: st) h := U_callV 4 C d ml_RL_139 mw_X4_reasons (by rw [ha]; exact yn_X4_reasons) rfl (by decide) hrc hM hlv hc hs hst hn k
theorem cv_RL_142 {g : GT} {Γ : CT} {cc : ByteArray} {nm : String} {nL : Nat} {rt : Option FieldType} {lvl mc ms : Nat} {Q : State → Prop} {ce sl pc n : Nat} {lv : List (Nat × Value)} {st : List Value} {h : Hp} {o : Nat} {av : List Value} {v : Int32} {h1 : Hp} {lvl2 : Nat} (C : Cx g Γ cc RL nm nL rt lvl mc ms) (d : decode cc pc = .ok (.invokevirtual 142, 3)) (ha : av.length = 1) (hrc : rc 4 h o = some ()) (hM : CM g yX4_count cX4_count 2 (some .int) lvl2 0 0 (.ref o :: av) h (.inr (some (.int v))) h1) (hlv : lvl2 < lvl) (hc : ce ≤ mc) (hs : sl ≤ ms) (hst : (st.map fun v => v.category).sum ≤ 8) (hn : pc + 3 = n) (k : U g Γ nL Q ce sl n lv (.int v :: st) h1) : U g Γ nL Q ce sl pc lv (av.reverse ++ .ref o :: st) h := U_callV 4 C d ml_RL_142 mw_X4_count (by rw [ha]; exact yn_X4_count) rfl (by decide) hrc hM hlv hc hs hst hn k
theorem cv_RL_145 {g : GT} {Γ : CT} {cc : ByteArray} {nm : String} {nL : Nat} {rt : Option FieldType} {lvl mc ms : Nat} {Q : State → Prop} {ce sl pc n : Nat} {lv : List (Nat × Value)} {st : List Value} {h : Hp} {o : Nat} {av : List Value} {v : Int32} {h1 : Hp} {lvl2 : Nat} (C : Cx g Γ cc RL nm nL rt lvl mc ms) (d : decode cc pc = .ok (.invokevirtual 145, 3)) (ha : av.length = 2) (hrc : rc 4 h o = some ()) (hM : CM g yX4_relation cX4_relation 3 (some .int) lvl2 0 0 (.ref o :: av) h (.inr (some (.int v))) h1) (hlv : lvl2 < lvl) (hc : ce ≤ mc) (hs : sl ≤ ms) (hst : (st.map fun v => v.category).sum ≤ 8) (hn : pc + 3 = n) (k : U g Γ nL Q ce sl n lv (.int v :: st) h1) : U g Γ nL Q ce sl pc lv (av.reverse ++ .ref o :: st) h := U_callV 4 C d ml_RL_145 mw_X4_relation (by rw [ha]; exact yn_X4_relation) rfl (by decide) hrc hM hlv hc hs hst hn k
theorem cv_RL_148 {g : GT} {Γ : CT} {cc : ByteArray} {nm : String} {nL : Nat} {rt : Option FieldType} {lvl mc ms : Nat} {Q : State → Prop} {ce sl pc n : Nat} {lv : List (Nat × Value)} {st : List Value} {h : Hp} {o : Nat} {av : List Value} {v : Int64} {h1 : Hp} {lvl2 : Nat} (C : Cx g Γ cc RL nm nL rt lvl mc ms) (d : decode cc pc = .ok (.invokevirtual 148, 3)) (ha : av.length = 1) (hrc : rc 4 h o = some ()) (hM : CM g yX4_behind cX4_behind 2 (some .long) lvl2 0 0 (.ref o :: av) h (.inr (some (.long v))) h1) (hlv : lvl2 < lvl) (hc : ce ≤ mc) (hs : sl ≤ ms) (hst : (st.map fun v => v.category).sum ≤ 8) (hn : pc + 3 = n) (k : U g Γ nL Q ce sl n lv (.long v :: st) h1) : U g Γ nL Q ce sl pc lv (av.reverse ++ .ref o :: st) h := U_callV 4 C d ml_RL_148 mw_X4_behind (by rw [ha]; exact yn_X4_behind) rfl (by decide) hrc hM hlv hc hs hst hn k
theorem cv_RL_152 {g : GT} {Γ : CT} {cc : ByteArray} {nm : String} {nL : Nat} {rt : Option FieldType} {lvl mc ms : Nat} {Q : State → Prop} {ce sl pc n : Nat} {lv : List (Nat × Value)} {st : List Value} {h : Hp} {o : Nat} {av : List Value} {v : Int32} {h1 : Hp} {lvl2 : Nat} (C : Cx g Γ cc RL nm nL rt lvl mc ms) (d : decode cc pc = .ok (.invokevirtual 152, 3)) (ha : av.length = 0) (hrc : rc 4 h o = some ()) (hM : CM g yX4_completions cX4_completions 5 (some .int) lvl2 0 0 (.ref o :: av) h (.inr (some (.int v))) h1) (hlv : lvl2 < lvl) (hc : ce ≤ mc) (hs : sl ≤ ms) (hst : (st.map fun v => v.category).sum ≤ 8) (hn : pc + 3 = n) (k : U g Γ nL Q ce sl n lv (.int v :: st) h1) : U g Γ nL Q ce sl pc lv (av.reverse ++ .ref o :: st) h := U_callV 4 C d ml_RL_152 mw_X4_completions (by rw [ha]; exact yn_X4_completions) rfl (by decide) hrc hM hlv hc hs hst hn k
theorem cv_RL_155 {g : GT} {Γ : CT} {cc : ByteArray} {nm : String} {nL : Nat} {rt : Option FieldType} {lvl mc ms : Nat} {Q : State → Prop} {ce sl pc n : Nat} {lv : List (Nat × Value)} {st : List Value} {h : Hp} {o : Nat} {av : List Value} {v : Int32} {h1 : Hp} {lvl2 : Nat} (C : Cx g Γ cc RL nm nL rt lvl mc ms) (d : decode cc pc = .ok (.invokevirtual 155, 3)) (ha : av.length = 2) (hrc : rc 4 h o = some ()) (hM : CM g yX4_cocircuit cX4_cocircuit 6 (some .int) lvl2 0 0 (.ref o :: av) h (.inr (some (.int v))) h1) (hlv : lvl2 < lvl) (hc : ce ≤ mc) (hs : sl ≤ ms) (hst : (st.map fun v => v.category).sum ≤ 8) (hn : pc + 3 = n) (k : U g Γ nL Q ce sl n lv (.int v :: st) h1) : U g Γ nL Q ce sl pc lv (av.reverse ++ .ref o :: st) h := U_callV 4 C d ml_RL_155 mw_X4_cocircuit (by rw [ha]; exact yn_X4_cocircuit) rfl (by decide) hrc hM hlv hc hs hst hn k
theorem cv_RL_158 {g : GT} {Γ : CT} {cc : ByteArray} {nm : String} {nL : Nat} {rt : Option FieldType} {lvl mc ms : Nat} {Q : State → Prop} {ce sl pc n : Nat} {lv : List (Nat × Value)} {st : List Value} {h : Hp} {o : Nat} {av : List Value} {v : Int32} {h1 : Hp} {lvl2 : Nat} (C : Cx g Γ cc RL nm nL rt lvl mc ms) (d : decode cc pc = .ok (.invokevirtual 158, 3)) (ha : av.length = 1) (hrc : rc 4 h o = some ()) (hM : CM g yX4_isExtreme cX4_isExtreme 2 (some .boolean) lvl2 0 0 (.ref o :: av) h (.inr (some (.int v))) h1) (hlv : lvl2 < lvl) (hc : ce ≤ mc) (hs : sl ≤ ms) (hst : (st.map fun v => v.category).sum ≤ 8) (hn : pc + 3 = n) (k : U g Γ nL Q ce sl n lv (.int v :: st) h1) : U g Γ nL Q ce sl pc lv (av.reverse ++ .ref o :: st) h := U_callV 4 C d ml_RL_158 mw_X4_isExtreme (by rw [ha]; exact yn_X4_isExtreme) rfl (by decide) hrc hM hlv hc hs hst hn k
theorem cv_RL_161 {g : GT} {Γ : CT} {cc : ByteArray} {nm : String} {nL : Nat} {rt : Option FieldType} {lvl mc ms : Nat} {Q : State → Prop} {ce sl pc n : Nat} {lv : List (Nat × Value)} {st : List Value} {h : Hp} {o : Nat} {av : List Value} {v : Int32} {h1 : Hp} {lvl2 : Nat} (C : Cx g Γ cc RL nm nL rt lvl mc ms) (d : decode cc pc = .ok (.invokevirtual 161, 3)) (ha : av.length = 0) (hrc : rc 4 h o = some ()) (hM : CM g yX4_lines cX4_lines 7 (some .int) lvl2 0 0 (.ref o :: av) h (.inr (some (.int v))) h1) (hlv : lvl2 < lvl) (hc : ce ≤ mc) (hs : sl ≤ ms) (hst : (st.map fun v => v.category).sum ≤ 8) (hn : pc + 3 = n) (k : U g Γ nL Q ce sl n lv (.int v :: st) h1) : U g Γ nL Q ce sl pc lv (av.reverse ++ .ref o :: st) h := U_callV 4 C d ml_RL_161 mw_X4_lines (by rw [ha]; exact yn_X4_lines) rfl (by decide) hrc hM hlv hc hs hst hn k
theorem cv_RL_164 {g : GT} {Γ : CT} {cc : ByteArray} {nm : String} {nL : Nat} {rt : Option FieldType} {lvl mc ms : Nat} {Q : State → Prop} {ce sl pc n : Nat} {lv : List (Nat × Value)} {st : List Value} {h : Hp} {o : Nat} {av : List Value} {v : Int32} {h1 : Hp} {lvl2 : Nat} (C : Cx g Γ cc RL nm nL rt lvl mc ms) (d : decode cc pc = .ok (.invokevirtual 164, 3)) (ha : av.length = 3) (hrc : rc 4 h o = some ()) (hM : CM g yX4_place cX4_place 5 (some .boolean) lvl2 0 0 (.ref o :: av) h (.inr (some (.int v))) h1) (hlv : lvl2 < lvl) (hc : ce ≤ mc) (hs : sl ≤ ms) (hst : (st.map fun v => v.category).sum ≤ 8) (hn : pc + 3 = n) (k : U g Γ nL Q ce sl n lv (.int v :: st) h1) : U g Γ nL Q ce sl pc lv (av.reverse ++ .ref o :: st) h := U_callV 4 C d ml_RL_164 mw_X4_place (by rw [ha]; exact yn_X4_place) rfl (by decide) hrc hM hlv hc hs hst hn k
theorem cv_RL_167 {g : GT} {Γ : CT} {cc : ByteArray} {nm : String} {nL : Nat} {rt : Option FieldType} {lvl mc ms : Nat} {Q : State → Prop} {ce sl pc n : Nat} {lv : List (Nat × Value)} {st : List Value} {h : Hp} {o : Nat} {av : List Value} {v : Int32} {h1 : Hp} {lvl2 : Nat} (C : Cx g Γ cc RL nm nL rt lvl mc ms) (d : decode cc pc = .ok (.invokevirtual 167, 3)) (ha : av.length = 2) (hrc : rc 4 h o = some ()) (hM : CM g yX4_coordinate cX4_coordinate 3 (some .int) lvl2 0 0 (.ref o :: av) h (.inr (some (.int v))) h1) (hlv : lvl2 < lvl) (hc : ce ≤ mc) (hs : sl ≤ ms) (hst : (st.map fun v => v.category).sum ≤ 8) (hn : pc + 3 = n) (k : U g Γ nL Q ce sl n lv (.int v :: st) h1) : U g Γ nL Q ce sl pc lv (av.reverse ++ .ref o :: st) h := U_callV 4 C d ml_RL_167 mw_X4_coordinate (by rw [ha]; exact yn_X4_coordinate) rfl (by decide) hrc hM hlv hc hs hst hn k
theorem cv_RL_168 {g : GT} {Γ : CT} {cc : ByteArray} {nm : String} {nL : Nat} {rt : Option FieldType} {lvl mc ms : Nat} {Q : State → Prop} {ce sl pc n : Nat} {lv : List (Nat × Value)} {st : List Value} {h : Hp} {o : Nat} {av : List Value} {v : Int32} {h1 : Hp} {lvl2 : Nat} (C : Cx g Γ cc RL nm nL rt lvl mc ms) (d : decode cc pc = .ok (.invokevirtual 168, 3)) (ha : av.length = 0) (hrc : rc 3 h o = some ()) (hM : CM g yX3_read cX3_read 4 (some .int) lvl2 0 0 (.ref o :: av) h (.inr (some (.int v))) h1) (hlv : lvl2 < lvl) (hc : ce ≤ mc) (hs : sl ≤ ms) (hst : (st.map fun v => v.category).sum ≤ 8) (hn : pc + 3 = n) (k : U g Γ nL Q ce sl n lv (.int v :: st) h1) : U g Γ nL Q ce sl pc lv (av.reverse ++ .ref o :: st) h := U_callV 3 C d ml_RL_168 mw_X3_read (by rw [ha]; exact yn_X3_read) rfl (by decide) hrc hM hlv hc hs hst hn k
theorem cv_RL_171 {g : GT} {Γ : CT} {cc : ByteArray} {nm : String} {nL : Nat} {rt : Option FieldType} {lvl mc ms : Nat} {Q : State → Prop} {ce sl pc n : Nat} {lv : List (Nat × Value)} {st : List Value} {h : Hp} {o : Nat} {av : List Value} {v : Int32} {h1 : Hp} {lvl2 : Nat} (C : Cx g Γ cc RL nm nL rt lvl mc ms) (d : decode cc pc = .ok (.invokevirtual 171, 3)) (ha : av.length = 0) (hrc : rc 4 h o = some ()) (hM : CM g yX4_read cX4_read 3 (some .int) lvl2 0 0 (.ref o :: av) h (.inr (some (.int v))) h1) (hlv : lvl2 < lvl) (hc : ce ≤ mc) (hs : sl ≤ ms) (hst : (st.map fun v => v.category).sum ≤ 8) (hn : pc + 3 = n) (k : U g Γ nL Q ce sl n lv (.int v :: st) h1) : U g Γ nL Q ce sl pc lv (av.reverse ++ .ref o :: st) h := U_callV 4 C d ml_RL_171 mw_X4_read (by rw [ha]; exact yn_X4_read) rfl (by decide) hrc hM hlv hc hs hst hn k
theorem cv_RL_172 {g : GT} {Γ : CT} {cc : ByteArray} {nm : String} {nL : Nat} {rt : Option FieldType} {lvl mc ms : Nat} {Q : State → Prop} {ce sl pc n : Nat} {lv : List (Nat × Value)} {st : List Value} {h : Hp} {o : Nat} {av : List Value} {v : Int32} {h1 : Hp} {lvl2 : Nat} (C : Cx g Γ cc RL nm nL rt lvl mc ms) (d : decode cc pc = .ok (.invokevirtual 172, 3)) (ha : av.length = 0) (hrc : rc 3 h o = some ()) (hM : CM g yX3_mismatches cX3_mismatches 1 (some .int) lvl2 0 0 (.ref o :: av) h (.inr (some (.int v))) h1) (hlv : lvl2 < lvl) (hc : ce ≤ mc) (hs : sl ≤ ms) (hst : (st.map fun v => v.category).sum ≤ 8) (hn : pc + 3 = n) (k : U g Γ nL Q ce sl n lv (.int v :: st) h1) : U g Γ nL Q ce sl pc lv (av.reverse ++ .ref o :: st) h := U_callV 3 C d ml_RL_172 mw_X3_mismatches (by rw [ha]; exact yn_X3_mismatches) rfl (by decide) hrc hM hlv hc hs hst hn k
theorem cv_RL_175 {g : GT} {Γ : CT} {cc : ByteArray} {nm : String} {nL : Nat} {rt : Option FieldType} {lvl mc ms : Nat} {Q : State → Prop} {ce sl pc n : Nat} {lv : List (Nat × Value)} {st : List Value} {h : Hp} {o : Nat} {av : List Value} {v : Int32} {h1 : Hp} {lvl2 : Nat} (C : Cx g Γ cc RL nm nL rt lvl mc ms) (d : decode cc pc = .ok (.invokevirtual 175, 3)) (ha : av.length = 0) (hrc : rc 4 h o = some ()) (hM : CM g yX4_mismatches cX4_mismatches 1 (some .int) lvl2 0 0 (.ref o :: av) h (.inr (some (.int v))) h1) (hlv : lvl2 < lvl) (hc : ce ≤ mc) (hs : sl ≤ ms) (hst : (st.map fun v => v.category).sum ≤ 8) (hn : pc + 3 = n) (k : U g Γ nL Q ce sl n lv (.int v :: st) h1) : U g Γ nL Q ce sl pc lv (av.reverse ++ .ref o :: st) h := U_callV 4 C d ml_RL_175 mw_X4_mismatches (by rw [ha]; exact yn_X4_mismatches) rfl (by decide) hrc hM hlv hc hs hst hn k
theorem cv_RL_178 {g : GT} {Γ : CT} {cc : ByteArray} {nm : String} {nL : Nat} {rt : Option FieldType} {lvl mc ms : Nat} {Q : State → Prop} {ce sl pc n : Nat} {lv : List (Nat × Value)} {st : List Value} {h : Hp} {o : Nat} {av : List Value} {v : Int32} {h1 : Hp} {lvl2 : Nat} (C : Cx g Γ cc RL nm nL rt lvl mc ms) (d : decode cc pc = .ok (.invokevirtual 178, 3)) (ha : av.length = 3) (hrc : rc 4 h o = some ()) (hM : CM g yX4_scatter cX4_scatter 11 (some .int) lvl2 0 0 (.ref o :: av) h (.inr (some (.int v))) h1) (hlv : lvl2 < lvl) (hc : ce ≤ mc) (hs : sl ≤ ms) (hst : (st.map fun v => v.category).sum ≤ 8) (hn : pc + 3 = n) (k : U g Γ nL Q ce sl n lv (.int v :: st) h1) : U g Γ nL Q ce sl pc lv (av.reverse ++ .ref o :: st) h := U_callV 4 C d ml_RL_178 mw_X4_scatter (by rw [ha]; exact yn_X4_scatter) rfl (by decide) hrc hM hlv hc hs hst hn k
theorem cv_RL_181 {g : GT} {Γ : CT} {cc : ByteArray} {nm : String} {nL : Nat} {rt : Option FieldType} {lvl mc ms : Nat} {Q : State → Prop} {ce sl pc n : Nat} {lv : List (Nat × Value)} {st : List Value} {h : Hp} {o : Nat} {av : List Value} {v : Int32} {h1 : Hp} {lvl2 : Nat} (C : Cx g Γ cc RL nm nL rt lvl mc ms) (d : decode cc pc = .ok (.invokevirtual 181, 3)) (ha : av.length = 1) (hrc : rc 4 h o = some ()) (hM : CM g yX4_type cX4_type 2 (some .int) lvl2 0 0 (.ref o :: av) h (.inr (some (.int v))) h1) (hlv : lvl2 < lvl) (hc : ce ≤ mc) (hs : sl ≤ ms) (hst : (st.map fun v => v.category).sum ≤ 8) (hn : pc + 3 = n) (k : U g Γ nL Q ce sl n lv (.int v :: st) h1) : U g Γ nL Q ce sl pc lv (av.reverse ++ .ref o :: st) h := U_callV 4 C d ml_RL_181 mw_X4_type (by rw [ha]; exact yn_X4_type) rfl (by decide) hrc hM hlv hc hs hst hn k
theorem cv_RL_182 {g : GT} {Γ : CT} {cc : ByteArray} {nm : String} {nL : Nat} {rt : Option FieldType} {lvl mc ms : Nat} {Q : State → Prop} {ce sl pc n : Nat} {lv : List (Nat × Value)} {st : List Value} {h : Hp} {o : Nat} {av : List Value} {v : Int32} {h1 : Hp} {lvl2 : Nat} (C : Cx g Γ cc RL nm nL rt lvl mc ms) (d : decode cc pc = .ok (.invokevirtual 182, 3)) (ha : av.length = 0) (hrc : rc 3 h o = some ()) (hM : CM g yX3_clearScript cX3_clearScript 2 (some .int) lvl2 0 0 (.ref o :: av) h (.inr (some (.int v))) h1) (hlv : lvl2 < lvl) (hc : ce ≤ mc) (hs : sl ≤ ms) (hst : (st.map fun v => v.category).sum ≤ 8) (hn : pc + 3 = n) (k : U g Γ nL Q ce sl n lv (.int v :: st) h1) : U g Γ nL Q ce sl pc lv (av.reverse ++ .ref o :: st) h := U_callV 3 C d ml_RL_182 mw_X3_clearScript (by rw [ha]; exact yn_X3_clearScript) rfl (by decide) hrc hM hlv hc hs hst hn k
theorem cv_RL_185 {g : GT} {Γ : CT} {cc : ByteArray} {nm : String} {nL : Nat} {rt : Option FieldType} {lvl mc ms : Nat} {Q : State → Prop} {ce sl pc n : Nat} {lv : List (Nat × Value)} {st : List Value} {h : Hp} {o : Nat} {av : List Value} {v : Int32} {h1 : Hp} {lvl2 : Nat} (C : Cx g Γ cc RL nm nL rt lvl mc ms) (d : decode cc pc = .ok (.invokevirtual 185, 3)) (ha : av.length = 0) (hrc : rc 4 h o = some ()) (hM : CM g yX4_clearScript cX4_clearScript 2 (some .int) lvl2 0 0 (.ref o :: av) h (.inr (some (.int v))) h1) (hlv : lvl2 < lvl) (hc : ce ≤ mc) (hs : sl ≤ ms) (hst : (st.map fun v => v.category).sum ≤ 8) (hn : pc + 3 = n) (k : U g Γ nL Q ce sl n lv (.int v :: st) h1) : U g Γ nL Q ce sl pc lv (av.reverse ++ .ref o :: st) h := U_callV 4 C d ml_RL_185 mw_X4_clearScript (by rw [ha]; exact yn_X4_clearScript) rfl (by decide) hrc hM hlv hc hs hst hn k
theorem cv_RL_186 {g : GT} {Γ : CT} {cc : ByteArray} {nm : String} {nL : Nat} {rt : Option FieldType} {lvl mc ms : Nat} {Q : State → Prop} {ce sl pc n : Nat} {lv : List (Nat × Value)} {st : List Value} {h : Hp} {o : Nat} {av : List Value} {v : Int32} {h1 : Hp} {lvl2 : Nat} (C : Cx g Γ cc RL nm nL rt lvl mc ms) (d : decode cc pc = .ok (.invokevirtual 186, 3)) (ha : av.length = 0) (hrc : rc 3 h o = some ()) (hM : CM g yX3_run cX3_run 3 (some .int) lvl2 0 0 (.ref o :: av) h (.inr (some (.int v))) h1) (hlv : lvl2 < lvl) (hc : ce ≤ mc) (hs : sl ≤ ms) (hst : (st.map fun v => v.category).sum ≤ 8) (hn : pc + 3 = n) (k : U g Γ nL Q ce sl n lv (.int v :: st) h1) : U g Γ nL Q ce sl pc lv (av.reverse ++ .ref o :: st) h := U_callV 3 C d ml_RL_186 mw_X3_run (by rw [ha]; exact yn_X3_run) rfl (by decide) hrc hM hlv hc hs hst hn k
theorem cv_RL_189 {g : GT} {Γ : CT} {cc : ByteArray} {nm : String} {nL : Nat} {rt : Option FieldType} {lvl mc ms : Nat} {Q : State → Prop} {ce sl pc n : Nat} {lv : List (Nat × Value)} {st : List Value} {h : Hp} {o : Nat} {av : List Value} {v : Int32} {h1 : Hp} {lvl2 : Nat} (C : Cx g Γ cc RL nm nL rt lvl mc ms) (d : decode cc pc = .ok (.invokevirtual 189, 3)) (ha : av.length = 0) (hrc : rc 4 h o = some ()) (hM : CM g yX4_run cX4_run 4 (some .int) lvl2 0 0 (.ref o :: av) h (.inr (some (.int v))) h1) (hlv : lvl2 < lvl) (hc : ce ≤ mc) (hs : sl ≤ ms) (hst : (st.map fun v => v.category).sum ≤ 8) (hn : pc + 3 = n) (k : U g Γ nL Q ce sl n lv (.int v :: st) h1) : U g Γ nL Q ce sl pc lv (av.reverse ++ .ref o :: st) h := U_callV 4 C d ml_RL_189 mw_X4_run (by rw [ha]; exact yn_X4_run) rfl (by decide) hrc hM hlv hc hs hst hn k
theorem cv_RL_192 {g : GT} {Γ : CT} {cc : ByteArray} {nm : String} {nL : Nat} {rt : Option FieldType} {lvl mc ms : Nat} {Q : State → Prop} {ce sl pc n : Nat} {lv : List (Nat × Value)} {st : List Value} {h : Hp} {o : Nat} {av : List Value} {v : Int32} {h1 : Hp} {lvl2 : Nat} (C : Cx g Γ cc RL nm nL rt lvl mc ms) (d : decode cc pc = .ok (.invokevirtual 192, 3)) (ha : av.length = 1) (hrc : rc 4 h o = some ()) (hM : CM g yX4_written cX4_written 5 (some .int) lvl2 0 0 (.ref o :: av) h (.inr (some (.int v))) h1) (hlv : lvl2 < lvl) (hc : ce ≤ mc) (hs : sl ≤ ms) (hst : (st.map fun v => v.category).sum ≤ 8) (hn : pc + 3 = n) (k : U g Γ nL Q ce sl n lv (.int v :: st) h1) : U g Γ nL Q ce sl pc lv (av.reverse ++ .ref o :: st) h := U_callV 4 C d ml_RL_192 mw_X4_written (by rw [ha]; exact yn_X4_written) rfl (by decide) hrc hM hlv hc hs hst hn k
theorem cv_RL_195 {g : GT} {Γ : CT} {cc : ByteArray} {nm : String} {nL : Nat} {rt : Option FieldType} {lvl mc ms : Nat} {Q : State → Prop} {ce sl pc n : Nat} {lv : List (Nat × Value)} {st : List Value} {h : Hp} {o : Nat} {av : List Value} {v : Int32} {h1 : Hp} {lvl2 : Nat} (C : Cx g Γ cc RL nm nL rt lvl mc ms) (d : decode cc pc = .ok (.invokevirtual 195, 3)) (ha : av.length = 0) (hrc : rc 4 h o = some ()) (hM : CM g yX4_undo cX4_undo 2 (some .int) lvl2 0 0 (.ref o :: av) h (.inr (some (.int v))) h1) (hlv : lvl2 < lvl) (hc : ce ≤ mc) (hs : sl ≤ ms) (hst : (st.map fun v => v.category).sum ≤ 8) (hn : pc + 3 = n) (k : U g Γ nL Q ce sl n lv (.int v :: st) h1) : U g Γ nL Q ce sl pc lv (av.reverse ++ .ref o :: st) h := U_callV 4 C d ml_RL_195 mw_X4_undo (by rw [ha]; exact yn_X4_undo) rfl (by decide) hrc hM hlv hc hs hst hn k
theorem cv_RL_196 {g : GT} {Γ : CT} {cc : ByteArray} {nm : String} {nL : Nat} {rt : Option FieldType} {lvl mc ms : Nat} {Q : State → Prop} {ce sl pc n : Nat} {lv : List (Nat × Value)} {st : List Value} {h : Hp} {o : Nat} {av : List Value} {v : Int64} {h1 : Hp} {lvl2 : Nat} (C : Cx g Γ cc RL nm nL rt lvl mc ms) (d : decode cc pc = .ok (.invokevirtual 196, 3)) (ha : av.length = 0) (hrc : rc 3 h o = some ()) (hM : CM g yX3_digest cX3_digest 5 (some .long) lvl2 0 0 (.ref o :: av) h (.inr (some (.long v))) h1) (hlv : lvl2 < lvl) (hc : ce ≤ mc) (hs : sl ≤ ms) (hst : (st.map fun v => v.category).sum ≤ 8) (hn : pc + 3 = n) (k : U g Γ nL Q ce sl n lv (.long v :: st) h1) : U g Γ nL Q ce sl pc lv (av.reverse ++ .ref o :: st) h := U_callV 3 C d ml_RL_196 mw_X3_digest (by rw [ha]; exact yn_X3_digest) rfl (by decide) hrc hM hlv hc hs hst hn k
theorem cv_RL_200 {g : GT} {Γ : CT} {cc : ByteArray} {nm : String} {nL : Nat} {rt : Option FieldType} {lvl mc ms : Nat} {Q : State → Prop} {ce sl pc n : Nat} {lv : List (Nat × Value)} {st : List Value} {h : Hp} {o : Nat} {av : List Value} {v : Int64} {h1 : Hp} {lvl2 : Nat} (C : Cx g Γ cc RL nm nL rt lvl mc ms) (d : decode cc pc = .ok (.invokevirtual 200, 3)) (ha : av.length = 0) (hrc : rc 4 h o = some ()) (hM : CM g yX4_digest cX4_digest 3 (some .long) lvl2 0 0 (.ref o :: av) h (.inr (some (.long v))) h1) (hlv : lvl2 < lvl) (hc : ce ≤ mc) (hs : sl ≤ ms) (hst : (st.map fun v => v.category).sum ≤ 8) (hn : pc + 3 = n) (k : U g Γ nL Q ce sl n lv (.long v :: st) h1) : U g Γ nL Q ce sl pc lv (av.reverse ++ .ref o :: st) h := U_callV 4 C d ml_RL_200 mw_X4_digest (by rw [ha]; exact yn_X4_digest) rfl (by decide) hrc hM hlv hc hs hst hn k
theorem yn_L_begin : YN yL_begin 3 := ⟨by decide +kernel, by decide +kernel, by decide +kernel⟩
def f_L_begin (a0 : Nat) (a1 : Int32) (a2 : Nat) (h : Hp) : Option (Int32 × Hp) :=
  bindTW (f_X3_begin a0 a1 h) (fun kv1 h2x => if kv1 = 0 then some ((1 : Int32), h2x) else none) fun v1 h2 =>
  (wJ h2 a2 (0 : Int32) (v1).toInt64).bind fun h3 =>
  some (((0 : Int32), h3))
set_option maxHeartbeats 2000000 in
set_option maxRecDepth 20000 in
theorem M_L_begin {g : GT} {a0 : Nat} {a1 : Int32} {a2 : Nat} {h : Hp} {r : Int32} {h2 : Hp} (hf : f_L_begin a0 a1 a2 h = some (r, h2)) : CMW g yL_begin cL_begin 4 [(0, 9, 12, 13)] 12 [.ref a0, .int a1, .ref a2] h r h2 := by
  refine CMW_of rfl rfl (fun _ => Nat.le_of_ble_eq_true rfl) (fun Γ C hn0 htab => ?_)
  have C : Cx g Γ cL_begin RL "begin" 4 (some .int) 12 1 6 := C
  generalize hQ : Qe g Γ (.inr (some (.int r))) h2 1 6 = Q
  show U g Γ 4 Q 0 0 0 [(0, .ref a0), (1, .int a1), (2, .ref a2)] [] h
  unfold f_L_begin at hf
  refine U_aload_n (n := 1) 2 C dL_begin_0 rfl rfl rfl ?_
  refine U_iconst (n := 2) (0 : Int32) C dL_begin_1 kiconst_0 rfl ?_
  refine U_aload_n (n := 3) 0 C dL_begin_2 rfl rfl rfl ?_
  refine U_iload_n (n := 4) 1 C dL_begin_3 rfl rfl ?_
  rcases bsomeTW hf with ⟨kv1, h2x, ev1, hf⟩ | ⟨v1, h2, ev1, hf⟩
  · skip
    by_cases c : kv1 = 0
    · replace hf := (if_pos c).symm.trans hf
      subst c
      obtain ⟨hr1, hr2⟩ := Prod.mk.inj (Option.some.inj hf)
      subst hr1; subst hr2
      subst hQ
      exact U_xcatch 3 0 (av := [.int a1]) [] ⟨0, 9, 12, 13⟩ [] C dL_begin_4 ml_RL_7 mw_X3_begin yn_X3_begin rfl (by decide) (rc_X3_begin ev1) (M_X3_begin ev1) (Nat.le_of_ble_eq_true rfl) (Nat.le_of_ble_eq_true rfl) htab (fun _ h => absurd h List.not_mem_nil) (by decide) (by decide) cl_RL_13 cst_0 (H_n C dL_begin_12 dL_begin_13 dL_begin_14 rfl rfl (by decide) kiconst_1)
    replace hf := (if_neg c).symm.trans hf
    cases hf
  refine cv_RL_7 (n := 7) C dL_begin_4 (av := [.int a1]) rfl (rc_X3_begin ev1) (M_X3_begin ev1) (Nat.le_of_ble_eq_true rfl) (Nat.zero_le _) (Nat.zero_le _) (Nat.le_of_ble_eq_true rfl) rfl ?_
  refine U_i2l (n := 8) C dL_begin_7 rfl ?_
  refine U_last (n := 9) C dL_begin_8 hf rfl (fun h3 hf => ?_)
  refine U_goto (n := 0) (tgt := 15) C dL_begin_9 (by decide) ?_
  refine U_iconst (n := 16) (0 : Int32) C dL_begin_15 kiconst_0 rfl ?_
  obtain ⟨hr1, hr2⟩ := Prod.mk.inj (Option.some.inj hf)
  subst hr1; subst hr2
  subst hQ
  exact U_iret C dL_begin_16 (Nat.zero_le _) (Nat.zero_le _)
theorem yn_L_give : YN yL_give 6 := ⟨by decide +kernel, by decide +kernel, by decide +kernel⟩
def f_L_give (a0 : Nat) (a1 : Int32) (a2 : Int32) (a3 : Int32) (a4 : Int32) (a5 : Nat) (h : Hp) : Option (Int32 × Hp) :=
  bindTW (f_X3_give a0 a1 a2 a3 a4 h) (fun kv1 h2x => if kv1 = 1 then some ((1 : Int32), h2x) else if kv1 = 0 then some ((2 : Int32), h2x) else none) fun v1 h2 =>
  (wJ h2 a5 (0 : Int32) (v1).toInt64).bind fun h3 =>
  some (((0 : Int32), h3))
set_option maxHeartbeats 2000000 in
set_option maxRecDepth 20000 in
theorem M_L_give {g : GT} {a0 : Nat} {a1 : Int32} {a2 : Int32} {a3 : Int32} {a4 : Int32} {a5 : Nat} {h : Hp} {r : Int32} {h2 : Hp} (hf : f_L_give a0 a1 a2 a3 a4 a5 h = some (r, h2)) : CMW g yL_give cL_give 7 [(0, 14, 17, 19), (0, 14, 21, 13)] 11 [.ref a0, .int a1, .int a2, .int a3, .int a4, .ref a5] h r h2 := by
  refine CMW_of rfl rfl (fun _ => Nat.le_of_ble_eq_true rfl) (fun Γ C hn0 htab => ?_)
  have C : Cx g Γ cL_give RL "give" 7 (some .int) 11 1 6 := C
  generalize hQ : Qe g Γ (.inr (some (.int r))) h2 1 6 = Q
  show U g Γ 7 Q 0 0 0 [(0, .ref a0), (1, .int a1), (2, .int a2), (3, .int a3), (4, .int a4), (5, .ref a5)] [] h
  unfold f_L_give at hf
  refine U_aload (n := 2) 5 C dL_give_0 rfl rfl rfl ?_
  refine U_iconst (n := 3) (0 : Int32) C dL_give_2 kiconst_0 rfl ?_
  refine U_aload_n (n := 4) 0 C dL_give_3 rfl rfl rfl ?_
  refine U_iload_n (n := 5) 1 C dL_give_4 rfl rfl ?_
  refine U_iload_n (n := 6) 2 C dL_give_5 rfl rfl ?_
  refine U_iload_n (n := 7) 3 C dL_give_6 rfl rfl ?_
  refine U_iload (n := 9) 4 C dL_give_7 rfl rfl ?_
  rcases bsomeTW hf with ⟨kv1, h2x, ev1, hf⟩ | ⟨v1, h2, ev1, hf⟩
  · skip
    by_cases c : kv1 = 1
    · replace hf := (if_pos c).symm.trans hf
      subst c
      obtain ⟨hr1, hr2⟩ := Prod.mk.inj (Option.some.inj hf)
      subst hr1; subst hr2
      subst hQ
      exact U_xcatch 3 1 (av := [.int a1, .int a2, .int a3, .int a4]) [] ⟨0, 14, 17, 19⟩ [⟨0, 14, 21, 13⟩] C dL_give_9 ml_RL_15 mw_X3_give yn_X3_give rfl (by decide) (rc_X3_give ev1) (M_X3_give ev1) (Nat.le_of_ble_eq_true rfl) (Nat.le_of_ble_eq_true rfl) htab (fun _ h => absurd h List.not_mem_nil) (by decide) (by decide) cl_RL_19 cst_1 (H_w C dL_give_17 dL_give_19 dL_give_20 rfl rfl (by decide) kiconst_1)
    replace hf := (if_neg c).symm.trans hf
    by_cases c : kv1 = 0
    · replace hf := (if_pos c).symm.trans hf
      subst c
      obtain ⟨hr1, hr2⟩ := Prod.mk.inj (Option.some.inj hf)
      subst hr1; subst hr2
      subst hQ
      exact U_xcatch 3 0 (av := [.int a1, .int a2, .int a3, .int a4]) [⟨0, 14, 17, 19⟩] ⟨0, 14, 21, 13⟩ [] C dL_give_9 ml_RL_15 mw_X3_give yn_X3_give rfl (by decide) (rc_X3_give ev1) (M_X3_give ev1) (Nat.le_of_ble_eq_true rfl) (Nat.le_of_ble_eq_true rfl) htab (List.forall_mem_cons.mpr ⟨⟨by decide, _, cl_RL_19, C.nc1⟩, (fun _ h => absurd h List.not_mem_nil)⟩) (by decide) (by decide) cl_RL_13 cst_0 (H_w C dL_give_21 dL_give_23 dL_give_24 rfl rfl (by decide) kiconst_2)
    replace hf := (if_neg c).symm.trans hf
    cases hf
  refine cv_RL_15 (n := 12) C dL_give_9 (av := [.int a1, .int a2, .int a3, .int a4]) rfl (rc_X3_give ev1) (M_X3_give ev1) (Nat.le_of_ble_eq_true rfl) (Nat.zero_le _) (Nat.zero_le _) (Nat.le_of_ble_eq_true rfl) rfl ?_
  refine U_i2l (n := 13) C dL_give_12 rfl ?_
  refine U_last (n := 14) C dL_give_13 hf rfl (fun h3 hf => ?_)
  refine U_goto (n := 0) (tgt := 25) C dL_give_14 (by decide) ?_
  refine U_iconst (n := 26) (0 : Int32) C dL_give_25 kiconst_0 rfl ?_
  obtain ⟨hr1, hr2⟩ := Prod.mk.inj (Option.some.inj hf)
  subst hr1; subst hr2
  subst hQ
  exact U_iret C dL_give_26 (Nat.zero_le _) (Nat.zero_le _)
theorem yn_L_drop : YN yL_drop 5 := ⟨by decide +kernel, by decide +kernel, by decide +kernel⟩
def f_L_drop (a0 : Nat) (a1 : Int32) (a2 : Int32) (a3 : Int32) (a4 : Nat) (h : Hp) : Option (Int32 × Hp) :=
  bindTW (f_X3_drop a0 a1 a2 a3 h) (fun kv1 h2x => if kv1 = 1 then some ((1 : Int32), h2x) else if kv1 = 0 then some ((2 : Int32), h2x) else if kv1 = 2 then some ((3 : Int32), h2x) else none) fun v1 h2 =>
  (wJ h2 a4 (0 : Int32) (v1).toInt64).bind fun h3 =>
  some (((0 : Int32), h3))
set_option maxHeartbeats 2000000 in
set_option maxRecDepth 20000 in
theorem M_L_drop {g : GT} {a0 : Nat} {a1 : Int32} {a2 : Int32} {a3 : Int32} {a4 : Nat} {h : Hp} {r : Int32} {h2 : Hp} (hf : f_L_drop a0 a1 a2 a3 a4 h = some (r, h2)) : CMW g yL_drop cL_drop 6 [(0, 12, 15, 19), (0, 12, 19, 13), (0, 12, 23, 25)] 10 [.ref a0, .int a1, .int a2, .int a3, .ref a4] h r h2 := by
  refine CMW_of rfl rfl (fun _ => Nat.le_of_ble_eq_true rfl) (fun Γ C hn0 htab => ?_)
  have C : Cx g Γ cL_drop RL "drop" 6 (some .int) 10 1 6 := C
  generalize hQ : Qe g Γ (.inr (some (.int r))) h2 1 6 = Q
  show U g Γ 6 Q 0 0 0 [(0, .ref a0), (1, .int a1), (2, .int a2), (3, .int a3), (4, .ref a4)] [] h
  unfold f_L_drop at hf
  refine U_aload (n := 2) 4 C dL_drop_0 rfl rfl rfl ?_
  refine U_iconst (n := 3) (0 : Int32) C dL_drop_2 kiconst_0 rfl ?_
  refine U_aload_n (n := 4) 0 C dL_drop_3 rfl rfl rfl ?_
  refine U_iload_n (n := 5) 1 C dL_drop_4 rfl rfl ?_
  refine U_iload_n (n := 6) 2 C dL_drop_5 rfl rfl ?_
  refine U_iload_n (n := 7) 3 C dL_drop_6 rfl rfl ?_
  rcases bsomeTW hf with ⟨kv1, h2x, ev1, hf⟩ | ⟨v1, h2, ev1, hf⟩
  · skip
    by_cases c : kv1 = 1
    · replace hf := (if_pos c).symm.trans hf
      subst c
      obtain ⟨hr1, hr2⟩ := Prod.mk.inj (Option.some.inj hf)
      subst hr1; subst hr2
      subst hQ
      exact U_xcatch 3 1 (av := [.int a1, .int a2, .int a3]) [] ⟨0, 12, 15, 19⟩ [⟨0, 12, 19, 13⟩, ⟨0, 12, 23, 25⟩] C dL_drop_7 ml_RL_21 mw_X3_drop yn_X3_drop rfl (by decide) (rc_X3_drop ev1) (M_X3_drop ev1) (Nat.le_of_ble_eq_true rfl) (Nat.le_of_ble_eq_true rfl) htab (fun _ h => absurd h List.not_mem_nil) (by decide) (by decide) cl_RL_19 cst_1 (H_w C dL_drop_15 dL_drop_17 dL_drop_18 rfl rfl (by decide) kiconst_1)
    replace hf := (if_neg c).symm.trans hf
    by_cases c : kv1 = 0
    · replace hf := (if_pos c).symm.trans hf
      subst c
      obtain ⟨hr1, hr2⟩ := Prod.mk.inj (Option.some.inj hf)
      subst hr1; subst hr2
      subst hQ
      exact U_xcatch 3 0 (av := [.int a1, .int a2, .int a3]) [⟨0, 12, 15, 19⟩] ⟨0, 12, 19, 13⟩ [⟨0, 12, 23, 25⟩] C dL_drop_7 ml_RL_21 mw_X3_drop yn_X3_drop rfl (by decide) (rc_X3_drop ev1) (M_X3_drop ev1) (Nat.le_of_ble_eq_true rfl) (Nat.le_of_ble_eq_true rfl) htab (List.forall_mem_cons.mpr ⟨⟨by decide, _, cl_RL_19, C.nc1⟩, (fun _ h => absurd h List.not_mem_nil)⟩) (by decide) (by decide) cl_RL_13 cst_0 (H_w C dL_drop_19 dL_drop_21 dL_drop_22 rfl rfl (by decide) kiconst_2)
    replace hf := (if_neg c).symm.trans hf
    by_cases c : kv1 = 2
    · replace hf := (if_pos c).symm.trans hf
      subst c
      obtain ⟨hr1, hr2⟩ := Prod.mk.inj (Option.some.inj hf)
      subst hr1; subst hr2
      subst hQ
      exact U_xcatch 3 2 (av := [.int a1, .int a2, .int a3]) [⟨0, 12, 15, 19⟩, ⟨0, 12, 19, 13⟩] ⟨0, 12, 23, 25⟩ [] C dL_drop_7 ml_RL_21 mw_X3_drop yn_X3_drop rfl (by decide) (rc_X3_drop ev1) (M_X3_drop ev1) (Nat.le_of_ble_eq_true rfl) (Nat.le_of_ble_eq_true rfl) htab (List.forall_mem_cons.mpr ⟨⟨by decide, _, cl_RL_19, C.nc2⟩, (List.forall_mem_cons.mpr ⟨⟨by decide, _, cl_RL_13, C.nc3⟩, (fun _ h => absurd h List.not_mem_nil)⟩)⟩) (by decide) (by decide) cl_RL_25 cst_2 (H_w C dL_drop_23 dL_drop_25 dL_drop_26 rfl rfl (by decide) kiconst_3)
    replace hf := (if_neg c).symm.trans hf
    cases hf
  refine cv_RL_21 (n := 10) C dL_drop_7 (av := [.int a1, .int a2, .int a3]) rfl (rc_X3_drop ev1) (M_X3_drop ev1) (Nat.le_of_ble_eq_true rfl) (Nat.zero_le _) (Nat.zero_le _) (Nat.le_of_ble_eq_true rfl) rfl ?_
  refine U_i2l (n := 11) C dL_drop_10 rfl ?_
  refine U_last (n := 12) C dL_drop_11 hf rfl (fun h3 hf => ?_)
  refine U_goto (n := 0) (tgt := 27) C dL_drop_12 (by decide) ?_
  refine U_iconst (n := 28) (0 : Int32) C dL_drop_27 kiconst_0 rfl ?_
  obtain ⟨hr1, hr2⟩ := Prod.mk.inj (Option.some.inj hf)
  subst hr1; subst hr2
  subst hQ
  exact U_iret C dL_drop_28 (Nat.zero_le _) (Nat.zero_le _)
theorem yn_L_turn : YN yL_turn 3 := ⟨by decide +kernel, by decide +kernel, by decide +kernel⟩
def f_L_turn (a0 : Nat) (a1 : Int32) (a2 : Nat) (h : Hp) : Option (Int32 × Hp) :=
  bindTW (f_X3_turn a0 a1 h) (fun kv1 h2x => if kv1 = 1 then some ((1 : Int32), h2x) else none) fun v1 h2 =>
  (wJ h2 a2 (0 : Int32) (v1).toInt64).bind fun h3 =>
  some (((0 : Int32), h3))
set_option maxHeartbeats 2000000 in
set_option maxRecDepth 20000 in
theorem M_L_turn {g : GT} {a0 : Nat} {a1 : Int32} {a2 : Nat} {h : Hp} {r : Int32} {h2 : Hp} (hf : f_L_turn a0 a1 a2 h = some (r, h2)) : CMW g yL_turn cL_turn 4 [(0, 9, 12, 19)] 9 [.ref a0, .int a1, .ref a2] h r h2 := by
  refine CMW_of rfl rfl (fun _ => Nat.le_of_ble_eq_true rfl) (fun Γ C hn0 htab => ?_)
  have C : Cx g Γ cL_turn RL "turn" 4 (some .int) 9 1 6 := C
  generalize hQ : Qe g Γ (.inr (some (.int r))) h2 1 6 = Q
  show U g Γ 4 Q 0 0 0 [(0, .ref a0), (1, .int a1), (2, .ref a2)] [] h
  unfold f_L_turn at hf
  refine U_aload_n (n := 1) 2 C dL_turn_0 rfl rfl rfl ?_
  refine U_iconst (n := 2) (0 : Int32) C dL_turn_1 kiconst_0 rfl ?_
  refine U_aload_n (n := 3) 0 C dL_turn_2 rfl rfl rfl ?_
  refine U_iload_n (n := 4) 1 C dL_turn_3 rfl rfl ?_
  rcases bsomeTW hf with ⟨kv1, h2x, ev1, hf⟩ | ⟨v1, h2, ev1, hf⟩
  · skip
    by_cases c : kv1 = 1
    · replace hf := (if_pos c).symm.trans hf
      subst c
      obtain ⟨hr1, hr2⟩ := Prod.mk.inj (Option.some.inj hf)
      subst hr1; subst hr2
      subst hQ
      exact U_xcatch 3 1 (av := [.int a1]) [] ⟨0, 9, 12, 19⟩ [] C dL_turn_4 ml_RL_27 mw_X3_turn yn_X3_turn rfl (by decide) (rc_X3_turn ev1) (M_X3_turn ev1) (Nat.le_of_ble_eq_true rfl) (Nat.le_of_ble_eq_true rfl) htab (fun _ h => absurd h List.not_mem_nil) (by decide) (by decide) cl_RL_19 cst_1 (H_n C dL_turn_12 dL_turn_13 dL_turn_14 rfl rfl (by decide) kiconst_1)
    replace hf := (if_neg c).symm.trans hf
    cases hf
  refine cv_RL_27 (n := 7) C dL_turn_4 (av := [.int a1]) rfl (rc_X3_turn ev1) (M_X3_turn ev1) (Nat.le_of_ble_eq_true rfl) (Nat.zero_le _) (Nat.zero_le _) (Nat.le_of_ble_eq_true rfl) rfl ?_
  refine U_i2l (n := 8) C dL_turn_7 rfl ?_
  refine U_last (n := 9) C dL_turn_8 hf rfl (fun h3 hf => ?_)
  refine U_goto (n := 0) (tgt := 15) C dL_turn_9 (by decide) ?_
  refine U_iconst (n := 16) (0 : Int32) C dL_turn_15 kiconst_0 rfl ?_
  obtain ⟨hr1, hr2⟩ := Prod.mk.inj (Option.some.inj hf)
  subst hr1; subst hr2
  subst hQ
  exact U_iret C dL_turn_16 (Nat.zero_le _) (Nat.zero_le _)
theorem yn_L_exchange : YN yL_exchange 4 := ⟨by decide +kernel, by decide +kernel, by decide +kernel⟩
def f_L_exchange (a0 : Nat) (a1 : Int32) (a2 : Int32) (a3 : Nat) (h : Hp) : Option (Int32 × Hp) :=
  bindTW (f_X3_exchange a0 a1 a2 h) (fun kv1 h2x => if kv1 = 1 then some ((1 : Int32), h2x) else if kv1 = 0 then some ((2 : Int32), h2x) else none) fun v1 h2 =>
  (wJ h2 a3 (0 : Int32) (v1).toInt64).bind fun h3 =>
  some (((0 : Int32), h3))
set_option maxHeartbeats 2000000 in
set_option maxRecDepth 20000 in
theorem M_L_exchange {g : GT} {a0 : Nat} {a1 : Int32} {a2 : Int32} {a3 : Nat} {h : Hp} {r : Int32} {h2 : Hp} (hf : f_L_exchange a0 a1 a2 a3 h = some (r, h2)) : CMW g yL_exchange cL_exchange 5 [(0, 10, 13, 19), (0, 10, 17, 13)] 11 [.ref a0, .int a1, .int a2, .ref a3] h r h2 := by
  refine CMW_of rfl rfl (fun _ => Nat.le_of_ble_eq_true rfl) (fun Γ C hn0 htab => ?_)
  have C : Cx g Γ cL_exchange RL "exchange" 5 (some .int) 11 1 6 := C
  generalize hQ : Qe g Γ (.inr (some (.int r))) h2 1 6 = Q
  show U g Γ 5 Q 0 0 0 [(0, .ref a0), (1, .int a1), (2, .int a2), (3, .ref a3)] [] h
  unfold f_L_exchange at hf
  refine U_aload_n (n := 1) 3 C dL_exchange_0 rfl rfl rfl ?_
  refine U_iconst (n := 2) (0 : Int32) C dL_exchange_1 kiconst_0 rfl ?_
  refine U_aload_n (n := 3) 0 C dL_exchange_2 rfl rfl rfl ?_
  refine U_iload_n (n := 4) 1 C dL_exchange_3 rfl rfl ?_
  refine U_iload_n (n := 5) 2 C dL_exchange_4 rfl rfl ?_
  rcases bsomeTW hf with ⟨kv1, h2x, ev1, hf⟩ | ⟨v1, h2, ev1, hf⟩
  · skip
    by_cases c : kv1 = 1
    · replace hf := (if_pos c).symm.trans hf
      subst c
      obtain ⟨hr1, hr2⟩ := Prod.mk.inj (Option.some.inj hf)
      subst hr1; subst hr2
      subst hQ
      exact U_xcatch 3 1 (av := [.int a1, .int a2]) [] ⟨0, 10, 13, 19⟩ [⟨0, 10, 17, 13⟩] C dL_exchange_5 ml_RL_30 mw_X3_exchange yn_X3_exchange rfl (by decide) (rc_X3_exchange ev1) (M_X3_exchange ev1) (Nat.le_of_ble_eq_true rfl) (Nat.le_of_ble_eq_true rfl) htab (fun _ h => absurd h List.not_mem_nil) (by decide) (by decide) cl_RL_19 cst_1 (H_w C dL_exchange_13 dL_exchange_15 dL_exchange_16 rfl rfl (by decide) kiconst_1)
    replace hf := (if_neg c).symm.trans hf
    by_cases c : kv1 = 0
    · replace hf := (if_pos c).symm.trans hf
      subst c
      obtain ⟨hr1, hr2⟩ := Prod.mk.inj (Option.some.inj hf)
      subst hr1; subst hr2
      subst hQ
      exact U_xcatch 3 0 (av := [.int a1, .int a2]) [⟨0, 10, 13, 19⟩] ⟨0, 10, 17, 13⟩ [] C dL_exchange_5 ml_RL_30 mw_X3_exchange yn_X3_exchange rfl (by decide) (rc_X3_exchange ev1) (M_X3_exchange ev1) (Nat.le_of_ble_eq_true rfl) (Nat.le_of_ble_eq_true rfl) htab (List.forall_mem_cons.mpr ⟨⟨by decide, _, cl_RL_19, C.nc1⟩, (fun _ h => absurd h List.not_mem_nil)⟩) (by decide) (by decide) cl_RL_13 cst_0 (H_w C dL_exchange_17 dL_exchange_19 dL_exchange_20 rfl rfl (by decide) kiconst_2)
    replace hf := (if_neg c).symm.trans hf
    cases hf
  refine cv_RL_30 (n := 8) C dL_exchange_5 (av := [.int a1, .int a2]) rfl (rc_X3_exchange ev1) (M_X3_exchange ev1) (Nat.le_of_ble_eq_true rfl) (Nat.zero_le _) (Nat.zero_le _) (Nat.le_of_ble_eq_true rfl) rfl ?_
  refine U_i2l (n := 9) C dL_exchange_8 rfl ?_
  refine U_last (n := 10) C dL_exchange_9 hf rfl (fun h3 hf => ?_)
  refine U_goto (n := 0) (tgt := 21) C dL_exchange_10 (by decide) ?_
  refine U_iconst (n := 22) (0 : Int32) C dL_exchange_21 kiconst_0 rfl ?_
  obtain ⟨hr1, hr2⟩ := Prod.mk.inj (Option.some.inj hf)
  subst hr1; subst hr2
  subst hQ
  exact U_iret C dL_exchange_22 (Nat.zero_le _) (Nat.zero_le _)
theorem yn_L_sign : YN yL_sign 5 := ⟨by decide +kernel, by decide +kernel, by decide +kernel⟩
def f_L_sign (a0 : Nat) (a1 : Int32) (a2 : Int32) (a3 : Int32) (a4 : Nat) (h : Hp) : Option (Int32 × Hp) :=
  bindT (f_X3_sign a0 a1 a2 a3 h) (fun kv1 => if kv1 = 1 then some ((1 : Int32), h) else none) fun v1 =>
  (wJ h a4 (0 : Int32) (v1).toInt64).bind fun h2 =>
  some (((0 : Int32), h2))
set_option maxHeartbeats 2000000 in
set_option maxRecDepth 20000 in
theorem M_L_sign {g : GT} {a0 : Nat} {a1 : Int32} {a2 : Int32} {a3 : Int32} {a4 : Nat} {h : Hp} {r : Int32} {h2 : Hp} (hf : f_L_sign a0 a1 a2 a3 a4 h = some (r, h2)) : CMW g yL_sign cL_sign 6 [(0, 12, 15, 19)] 10 [.ref a0, .int a1, .int a2, .int a3, .ref a4] h r h2 := by
  refine CMW_of rfl rfl (fun _ => Nat.le_of_ble_eq_true rfl) (fun Γ C hn0 htab => ?_)
  have C : Cx g Γ cL_sign RL "sign" 6 (some .int) 10 1 6 := C
  generalize hQ : Qe g Γ (.inr (some (.int r))) h2 1 6 = Q
  show U g Γ 6 Q 0 0 0 [(0, .ref a0), (1, .int a1), (2, .int a2), (3, .int a3), (4, .ref a4)] [] h
  unfold f_L_sign at hf
  refine U_aload (n := 2) 4 C dL_sign_0 rfl rfl rfl ?_
  refine U_iconst (n := 3) (0 : Int32) C dL_sign_2 kiconst_0 rfl ?_
  refine U_aload_n (n := 4) 0 C dL_sign_3 rfl rfl rfl ?_
  refine U_iload_n (n := 5) 1 C dL_sign_4 rfl rfl ?_
  refine U_iload_n (n := 6) 2 C dL_sign_5 rfl rfl ?_
  refine U_iload_n (n := 7) 3 C dL_sign_6 rfl rfl ?_
  rcases bsomeT hf with ⟨kv1, ev1, hf⟩ | ⟨v1, ev1, hf⟩
  · skip
    by_cases c : kv1 = 1
    · replace hf := (if_pos c).symm.trans hf
      subst c
      obtain ⟨hr1, hr2⟩ := Prod.mk.inj (Option.some.inj hf)
      subst hr1; subst hr2
      subst hQ
      exact U_xcatch 3 1 (av := [.int a1, .int a2, .int a3]) [] ⟨0, 12, 15, 19⟩ [] C dL_sign_7 ml_RL_34 mw_X3_sign yn_X3_sign rfl (by decide) (rc_X3_sign ev1) (M_X3_sign ev1) (Nat.le_of_ble_eq_true rfl) (Nat.le_of_ble_eq_true rfl) htab (fun _ h => absurd h List.not_mem_nil) (by decide) (by decide) cl_RL_19 cst_1 (H_w C dL_sign_15 dL_sign_17 dL_sign_18 rfl rfl (by decide) kiconst_1)
    replace hf := (if_neg c).symm.trans hf
    cases hf
  refine cv_RL_34 (n := 10) C dL_sign_7 (av := [.int a1, .int a2, .int a3]) rfl (rc_X3_sign ev1) (M_X3_sign ev1) (Nat.le_of_ble_eq_true rfl) (Nat.zero_le _) (Nat.zero_le _) (Nat.le_of_ble_eq_true rfl) rfl ?_
  refine U_i2l (n := 11) C dL_sign_10 rfl ?_
  refine U_last (n := 12) C dL_sign_11 hf rfl (fun h2 hf => ?_)
  refine U_goto (n := 0) (tgt := 19) C dL_sign_12 (by decide) ?_
  refine U_iconst (n := 20) (0 : Int32) C dL_sign_19 kiconst_0 rfl ?_
  obtain ⟨hr1, hr2⟩ := Prod.mk.inj (Option.some.inj hf)
  subst hr1; subst hr2
  subst hQ
  exact U_iret C dL_sign_20 (Nat.zero_le _) (Nat.zero_le _)
theorem yn_L_triple : YN yL_triple 4 := ⟨by decide +kernel, by decide +kernel, by decide +kernel⟩
def f_L_triple (a0 : Nat) (a1 : Int32) (a2 : Int32) (a3 : Nat) (h : Hp) : Option (Int32 × Hp) :=
  bindT (f_X3_triple a0 a1 a2 h) (fun kv1 => if kv1 = 1 then some ((1 : Int32), h) else if kv1 = 0 then some ((2 : Int32), h) else none) fun v1 =>
  (wJ h a3 (0 : Int32) (v1).toInt64).bind fun h2 =>
  some (((0 : Int32), h2))
set_option maxHeartbeats 2000000 in
set_option maxRecDepth 20000 in
theorem M_L_triple {g : GT} {a0 : Nat} {a1 : Int32} {a2 : Int32} {a3 : Nat} {h : Hp} {r : Int32} {h2 : Hp} (hf : f_L_triple a0 a1 a2 a3 h = some (r, h2)) : CMW g yL_triple cL_triple 5 [(0, 10, 13, 19), (0, 10, 17, 13)] 8 [.ref a0, .int a1, .int a2, .ref a3] h r h2 := by
  refine CMW_of rfl rfl (fun _ => Nat.le_of_ble_eq_true rfl) (fun Γ C hn0 htab => ?_)
  have C : Cx g Γ cL_triple RL "triple" 5 (some .int) 8 1 6 := C
  generalize hQ : Qe g Γ (.inr (some (.int r))) h2 1 6 = Q
  show U g Γ 5 Q 0 0 0 [(0, .ref a0), (1, .int a1), (2, .int a2), (3, .ref a3)] [] h
  unfold f_L_triple at hf
  refine U_aload_n (n := 1) 3 C dL_triple_0 rfl rfl rfl ?_
  refine U_iconst (n := 2) (0 : Int32) C dL_triple_1 kiconst_0 rfl ?_
  refine U_aload_n (n := 3) 0 C dL_triple_2 rfl rfl rfl ?_
  refine U_iload_n (n := 4) 1 C dL_triple_3 rfl rfl ?_
  refine U_iload_n (n := 5) 2 C dL_triple_4 rfl rfl ?_
  rcases bsomeT hf with ⟨kv1, ev1, hf⟩ | ⟨v1, ev1, hf⟩
  · skip
    by_cases c : kv1 = 1
    · replace hf := (if_pos c).symm.trans hf
      subst c
      obtain ⟨hr1, hr2⟩ := Prod.mk.inj (Option.some.inj hf)
      subst hr1; subst hr2
      subst hQ
      exact U_xcatch 3 1 (av := [.int a1, .int a2]) [] ⟨0, 10, 13, 19⟩ [⟨0, 10, 17, 13⟩] C dL_triple_5 ml_RL_37 mw_X3_triple yn_X3_triple rfl (by decide) (rc_X3_triple ev1) (M_X3_triple ev1) (Nat.le_of_ble_eq_true rfl) (Nat.le_of_ble_eq_true rfl) htab (fun _ h => absurd h List.not_mem_nil) (by decide) (by decide) cl_RL_19 cst_1 (H_w C dL_triple_13 dL_triple_15 dL_triple_16 rfl rfl (by decide) kiconst_1)
    replace hf := (if_neg c).symm.trans hf
    by_cases c : kv1 = 0
    · replace hf := (if_pos c).symm.trans hf
      subst c
      obtain ⟨hr1, hr2⟩ := Prod.mk.inj (Option.some.inj hf)
      subst hr1; subst hr2
      subst hQ
      exact U_xcatch 3 0 (av := [.int a1, .int a2]) [⟨0, 10, 13, 19⟩] ⟨0, 10, 17, 13⟩ [] C dL_triple_5 ml_RL_37 mw_X3_triple yn_X3_triple rfl (by decide) (rc_X3_triple ev1) (M_X3_triple ev1) (Nat.le_of_ble_eq_true rfl) (Nat.le_of_ble_eq_true rfl) htab (List.forall_mem_cons.mpr ⟨⟨by decide, _, cl_RL_19, C.nc1⟩, (fun _ h => absurd h List.not_mem_nil)⟩) (by decide) (by decide) cl_RL_13 cst_0 (H_w C dL_triple_17 dL_triple_19 dL_triple_20 rfl rfl (by decide) kiconst_2)
    replace hf := (if_neg c).symm.trans hf
    cases hf
  refine cv_RL_37 (n := 8) C dL_triple_5 (av := [.int a1, .int a2]) rfl (rc_X3_triple ev1) (M_X3_triple ev1) (Nat.le_of_ble_eq_true rfl) (Nat.zero_le _) (Nat.zero_le _) (Nat.le_of_ble_eq_true rfl) rfl ?_
  refine U_i2l (n := 9) C dL_triple_8 rfl ?_
  refine U_last (n := 10) C dL_triple_9 hf rfl (fun h2 hf => ?_)
  refine U_goto (n := 0) (tgt := 21) C dL_triple_10 (by decide) ?_
  refine U_iconst (n := 22) (0 : Int32) C dL_triple_21 kiconst_0 rfl ?_
  obtain ⟨hr1, hr2⟩ := Prod.mk.inj (Option.some.inj hf)
  subst hr1; subst hr2
  subst hQ
  exact U_iret C dL_triple_22 (Nat.zero_le _) (Nat.zero_le _)
theorem yn_L_reasons : YN yL_reasons 3 := ⟨by decide +kernel, by decide +kernel, by decide +kernel⟩
def f_L_reasons (a0 : Nat) (a1 : Int32) (a2 : Nat) (h : Hp) : Option (Int32 × Hp) :=
  bindT (f_X3_reasons a0 a1 h) (fun kv1 => if kv1 = 1 then some ((1 : Int32), h) else none) fun v1 =>
  (wJ h a2 (0 : Int32) v1).bind fun h2 =>
  some (((0 : Int32), h2))
set_option maxHeartbeats 2000000 in
set_option maxRecDepth 20000 in
theorem M_L_reasons {g : GT} {a0 : Nat} {a1 : Int32} {a2 : Nat} {h : Hp} {r : Int32} {h2 : Hp} (hf : f_L_reasons a0 a1 a2 h = some (r, h2)) : CMW g yL_reasons cL_reasons 4 [(0, 8, 11, 19)] 8 [.ref a0, .int a1, .ref a2] h r h2 := by
  refine CMW_of rfl rfl (fun _ => Nat.le_of_ble_eq_true rfl) (fun Γ C hn0 htab => ?_)
  have C : Cx g Γ cL_reasons RL "reasons" 4 (some .int) 8 1 6 := C
  generalize hQ : Qe g Γ (.inr (some (.int r))) h2 1 6 = Q
  show U g Γ 4 Q 0 0 0 [(0, .ref a0), (1, .int a1), (2, .ref a2)] [] h
  unfold f_L_reasons at hf
  refine U_aload_n (n := 1) 2 C dL_reasons_0 rfl rfl rfl ?_
  refine U_iconst (n := 2) (0 : Int32) C dL_reasons_1 kiconst_0 rfl ?_
  refine U_aload_n (n := 3) 0 C dL_reasons_2 rfl rfl rfl ?_
  refine U_iload_n (n := 4) 1 C dL_reasons_3 rfl rfl ?_
  rcases bsomeT hf with ⟨kv1, ev1, hf⟩ | ⟨v1, ev1, hf⟩
  · skip
    by_cases c : kv1 = 1
    · replace hf := (if_pos c).symm.trans hf
      subst c
      obtain ⟨hr1, hr2⟩ := Prod.mk.inj (Option.some.inj hf)
      subst hr1; subst hr2
      subst hQ
      exact U_xcatch 3 1 (av := [.int a1]) [] ⟨0, 8, 11, 19⟩ [] C dL_reasons_4 ml_RL_40 mw_X3_reasons yn_X3_reasons rfl (by decide) (rc_X3_reasons ev1) (M_X3_reasons ev1) (Nat.le_of_ble_eq_true rfl) (Nat.le_of_ble_eq_true rfl) htab (fun _ h => absurd h List.not_mem_nil) (by decide) (by decide) cl_RL_19 cst_1 (H_n C dL_reasons_11 dL_reasons_12 dL_reasons_13 rfl rfl (by decide) kiconst_1)
    replace hf := (if_neg c).symm.trans hf
    cases hf
  refine cv_RL_40 (n := 7) C dL_reasons_4 (av := [.int a1]) rfl (rc_X3_reasons ev1) (M_X3_reasons ev1) (Nat.le_of_ble_eq_true rfl) (Nat.zero_le _) (Nat.zero_le _) (Nat.le_of_ble_eq_true rfl) rfl ?_
  refine U_last (n := 8) C dL_reasons_7 hf rfl (fun h2 hf => ?_)
  refine U_goto (n := 0) (tgt := 14) C dL_reasons_8 (by decide) ?_
  refine U_iconst (n := 15) (0 : Int32) C dL_reasons_14 kiconst_0 rfl ?_
  obtain ⟨hr1, hr2⟩ := Prod.mk.inj (Option.some.inj hf)
  subst hr1; subst hr2
  subst hQ
  exact U_iret C dL_reasons_15 (Nat.zero_le _) (Nat.zero_le _)
theorem yn_L_count : YN yL_count 3 := ⟨by decide +kernel, by decide +kernel, by decide +kernel⟩
def f_L_count (a0 : Nat) (a1 : Int32) (a2 : Nat) (h : Hp) : Option (Int32 × Hp) :=
  bindT (f_X3_count a0 a1 h) (fun kv1 => if kv1 = 0 then some ((1 : Int32), h) else none) fun v1 =>
  (wJ h a2 (0 : Int32) (v1).toInt64).bind fun h2 =>
  some (((0 : Int32), h2))
set_option maxHeartbeats 2000000 in
set_option maxRecDepth 20000 in
theorem M_L_count {g : GT} {a0 : Nat} {a1 : Int32} {a2 : Nat} {h : Hp} {r : Int32} {h2 : Hp} (hf : f_L_count a0 a1 a2 h = some (r, h2)) : CMW g yL_count cL_count 4 [(0, 9, 12, 13)] 10 [.ref a0, .int a1, .ref a2] h r h2 := by
  refine CMW_of rfl rfl (fun _ => Nat.le_of_ble_eq_true rfl) (fun Γ C hn0 htab => ?_)
  have C : Cx g Γ cL_count RL "count" 4 (some .int) 10 1 6 := C
  generalize hQ : Qe g Γ (.inr (some (.int r))) h2 1 6 = Q
  show U g Γ 4 Q 0 0 0 [(0, .ref a0), (1, .int a1), (2, .ref a2)] [] h
  unfold f_L_count at hf
  refine U_aload_n (n := 1) 2 C dL_count_0 rfl rfl rfl ?_
  refine U_iconst (n := 2) (0 : Int32) C dL_count_1 kiconst_0 rfl ?_
  refine U_aload_n (n := 3) 0 C dL_count_2 rfl rfl rfl ?_
  refine U_iload_n (n := 4) 1 C dL_count_3 rfl rfl ?_
  rcases bsomeT hf with ⟨kv1, ev1, hf⟩ | ⟨v1, ev1, hf⟩
  · skip
    by_cases c : kv1 = 0
    · replace hf := (if_pos c).symm.trans hf
      subst c
      obtain ⟨hr1, hr2⟩ := Prod.mk.inj (Option.some.inj hf)
      subst hr1; subst hr2
      subst hQ
      exact U_xcatch 3 0 (av := [.int a1]) [] ⟨0, 9, 12, 13⟩ [] C dL_count_4 ml_RL_44 mw_X3_count yn_X3_count rfl (by decide) (rc_X3_count ev1) (M_X3_count ev1) (Nat.le_of_ble_eq_true rfl) (Nat.le_of_ble_eq_true rfl) htab (fun _ h => absurd h List.not_mem_nil) (by decide) (by decide) cl_RL_13 cst_0 (H_n C dL_count_12 dL_count_13 dL_count_14 rfl rfl (by decide) kiconst_1)
    replace hf := (if_neg c).symm.trans hf
    cases hf
  refine cv_RL_44 (n := 7) C dL_count_4 (av := [.int a1]) rfl (rc_X3_count ev1) (M_X3_count ev1) (Nat.le_of_ble_eq_true rfl) (Nat.zero_le _) (Nat.zero_le _) (Nat.le_of_ble_eq_true rfl) rfl ?_
  refine U_i2l (n := 8) C dL_count_7 rfl ?_
  refine U_last (n := 9) C dL_count_8 hf rfl (fun h2 hf => ?_)
  refine U_goto (n := 0) (tgt := 15) C dL_count_9 (by decide) ?_
  refine U_iconst (n := 16) (0 : Int32) C dL_count_15 kiconst_0 rfl ?_
  obtain ⟨hr1, hr2⟩ := Prod.mk.inj (Option.some.inj hf)
  subst hr1; subst hr2
  subst hQ
  exact U_iret C dL_count_16 (Nat.zero_le _) (Nat.zero_le _)
theorem yn_L_relation : YN yL_relation 4 := ⟨by decide +kernel, by decide +kernel, by decide +kernel⟩
def f_L_relation (a0 : Nat) (a1 : Int32) (a2 : Int32) (a3 : Nat) (h : Hp) : Option (Int32 × Hp) :=
  bindT (f_X3_relation a0 a1 a2 h) (fun kv1 => if kv1 = 1 then some ((1 : Int32), h) else if kv1 = 0 then some ((2 : Int32), h) else none) fun v1 =>
  (wJ h a3 (0 : Int32) (v1).toInt64).bind fun h2 =>
  some (((0 : Int32), h2))
set_option maxHeartbeats 2000000 in
set_option maxRecDepth 20000 in
theorem M_L_relation {g : GT} {a0 : Nat} {a1 : Int32} {a2 : Int32} {a3 : Nat} {h : Hp} {r : Int32} {h2 : Hp} (hf : f_L_relation a0 a1 a2 a3 h = some (r, h2)) : CMW g yL_relation cL_relation 5 [(0, 10, 13, 19), (0, 10, 17, 13)] 9 [.ref a0, .int a1, .int a2, .ref a3] h r h2 := by
  refine CMW_of rfl rfl (fun _ => Nat.le_of_ble_eq_true rfl) (fun Γ C hn0 htab => ?_)
  have C : Cx g Γ cL_relation RL "relation" 5 (some .int) 9 1 6 := C
  generalize hQ : Qe g Γ (.inr (some (.int r))) h2 1 6 = Q
  show U g Γ 5 Q 0 0 0 [(0, .ref a0), (1, .int a1), (2, .int a2), (3, .ref a3)] [] h
  unfold f_L_relation at hf
  refine U_aload_n (n := 1) 3 C dL_relation_0 rfl rfl rfl ?_
  refine U_iconst (n := 2) (0 : Int32) C dL_relation_1 kiconst_0 rfl ?_
  refine U_aload_n (n := 3) 0 C dL_relation_2 rfl rfl rfl ?_
  refine U_iload_n (n := 4) 1 C dL_relation_3 rfl rfl ?_
  refine U_iload_n (n := 5) 2 C dL_relation_4 rfl rfl ?_
  rcases bsomeT hf with ⟨kv1, ev1, hf⟩ | ⟨v1, ev1, hf⟩
  · skip
    by_cases c : kv1 = 1
    · replace hf := (if_pos c).symm.trans hf
      subst c
      obtain ⟨hr1, hr2⟩ := Prod.mk.inj (Option.some.inj hf)
      subst hr1; subst hr2
      subst hQ
      exact U_xcatch 3 1 (av := [.int a1, .int a2]) [] ⟨0, 10, 13, 19⟩ [⟨0, 10, 17, 13⟩] C dL_relation_5 ml_RL_47 mw_X3_relation yn_X3_relation rfl (by decide) (rc_X3_relation ev1) (M_X3_relation ev1) (Nat.le_of_ble_eq_true rfl) (Nat.le_of_ble_eq_true rfl) htab (fun _ h => absurd h List.not_mem_nil) (by decide) (by decide) cl_RL_19 cst_1 (H_w C dL_relation_13 dL_relation_15 dL_relation_16 rfl rfl (by decide) kiconst_1)
    replace hf := (if_neg c).symm.trans hf
    by_cases c : kv1 = 0
    · replace hf := (if_pos c).symm.trans hf
      subst c
      obtain ⟨hr1, hr2⟩ := Prod.mk.inj (Option.some.inj hf)
      subst hr1; subst hr2
      subst hQ
      exact U_xcatch 3 0 (av := [.int a1, .int a2]) [⟨0, 10, 13, 19⟩] ⟨0, 10, 17, 13⟩ [] C dL_relation_5 ml_RL_47 mw_X3_relation yn_X3_relation rfl (by decide) (rc_X3_relation ev1) (M_X3_relation ev1) (Nat.le_of_ble_eq_true rfl) (Nat.le_of_ble_eq_true rfl) htab (List.forall_mem_cons.mpr ⟨⟨by decide, _, cl_RL_19, C.nc1⟩, (fun _ h => absurd h List.not_mem_nil)⟩) (by decide) (by decide) cl_RL_13 cst_0 (H_w C dL_relation_17 dL_relation_19 dL_relation_20 rfl rfl (by decide) kiconst_2)
    replace hf := (if_neg c).symm.trans hf
    cases hf
  refine cv_RL_47 (n := 8) C dL_relation_5 (av := [.int a1, .int a2]) rfl (rc_X3_relation ev1) (M_X3_relation ev1) (Nat.le_of_ble_eq_true rfl) (Nat.zero_le _) (Nat.zero_le _) (Nat.le_of_ble_eq_true rfl) rfl ?_
  refine U_i2l (n := 9) C dL_relation_8 rfl ?_
  refine U_last (n := 10) C dL_relation_9 hf rfl (fun h2 hf => ?_)
  refine U_goto (n := 0) (tgt := 21) C dL_relation_10 (by decide) ?_
  refine U_iconst (n := 22) (0 : Int32) C dL_relation_21 kiconst_0 rfl ?_
  obtain ⟨hr1, hr2⟩ := Prod.mk.inj (Option.some.inj hf)
  subst hr1; subst hr2
  subst hQ
  exact U_iret C dL_relation_22 (Nat.zero_le _) (Nat.zero_le _)
theorem yn_L_behind : YN yL_behind 3 := ⟨by decide +kernel, by decide +kernel, by decide +kernel⟩
def f_L_behind (a0 : Nat) (a1 : Int32) (a2 : Nat) (h : Hp) : Option (Int32 × Hp) :=
  bindT (f_X3_behind a0 a1 h) (fun kv1 => if kv1 = 1 then some ((1 : Int32), h) else none) fun v1 =>
  (wJ h a2 (0 : Int32) v1).bind fun h2 =>
  some (((0 : Int32), h2))
set_option maxHeartbeats 2000000 in
set_option maxRecDepth 20000 in
theorem M_L_behind {g : GT} {a0 : Nat} {a1 : Int32} {a2 : Nat} {h : Hp} {r : Int32} {h2 : Hp} (hf : f_L_behind a0 a1 a2 h = some (r, h2)) : CMW g yL_behind cL_behind 4 [(0, 8, 11, 19)] 9 [.ref a0, .int a1, .ref a2] h r h2 := by
  refine CMW_of rfl rfl (fun _ => Nat.le_of_ble_eq_true rfl) (fun Γ C hn0 htab => ?_)
  have C : Cx g Γ cL_behind RL "behind" 4 (some .int) 9 1 6 := C
  generalize hQ : Qe g Γ (.inr (some (.int r))) h2 1 6 = Q
  show U g Γ 4 Q 0 0 0 [(0, .ref a0), (1, .int a1), (2, .ref a2)] [] h
  unfold f_L_behind at hf
  refine U_aload_n (n := 1) 2 C dL_behind_0 rfl rfl rfl ?_
  refine U_iconst (n := 2) (0 : Int32) C dL_behind_1 kiconst_0 rfl ?_
  refine U_aload_n (n := 3) 0 C dL_behind_2 rfl rfl rfl ?_
  refine U_iload_n (n := 4) 1 C dL_behind_3 rfl rfl ?_
  rcases bsomeT hf with ⟨kv1, ev1, hf⟩ | ⟨v1, ev1, hf⟩
  · skip
    by_cases c : kv1 = 1
    · replace hf := (if_pos c).symm.trans hf
      subst c
      obtain ⟨hr1, hr2⟩ := Prod.mk.inj (Option.some.inj hf)
      subst hr1; subst hr2
      subst hQ
      exact U_xcatch 3 1 (av := [.int a1]) [] ⟨0, 8, 11, 19⟩ [] C dL_behind_4 ml_RL_50 mw_X3_behind yn_X3_behind rfl (by decide) (rc_X3_behind ev1) (M_X3_behind ev1) (Nat.le_of_ble_eq_true rfl) (Nat.le_of_ble_eq_true rfl) htab (fun _ h => absurd h List.not_mem_nil) (by decide) (by decide) cl_RL_19 cst_1 (H_n C dL_behind_11 dL_behind_12 dL_behind_13 rfl rfl (by decide) kiconst_1)
    replace hf := (if_neg c).symm.trans hf
    cases hf
  refine cv_RL_50 (n := 7) C dL_behind_4 (av := [.int a1]) rfl (rc_X3_behind ev1) (M_X3_behind ev1) (Nat.le_of_ble_eq_true rfl) (Nat.zero_le _) (Nat.zero_le _) (Nat.le_of_ble_eq_true rfl) rfl ?_
  refine U_last (n := 8) C dL_behind_7 hf rfl (fun h2 hf => ?_)
  refine U_goto (n := 0) (tgt := 14) C dL_behind_8 (by decide) ?_
  refine U_iconst (n := 15) (0 : Int32) C dL_behind_14 kiconst_0 rfl ?_
  obtain ⟨hr1, hr2⟩ := Prod.mk.inj (Option.some.inj hf)
  subst hr1; subst hr2
  subst hQ
  exact U_iret C dL_behind_15 (Nat.zero_le _) (Nat.zero_le _)
theorem yn_L_completions : YN yL_completions 2 := ⟨by decide +kernel, by decide +kernel, by decide +kernel⟩
def f_L_completions (a0 : Nat) (a1 : Nat) (h : Hp) : Option (Int32 × Hp) :=
  bindTW (f_X3_completions a0 h) (fun kv1 h2x => if kv1 = 2 then some ((1 : Int32), h2x) else none) fun v1 h2 =>
  (wJ h2 a1 (0 : Int32) (v1).toInt64).bind fun h3 =>
  some (((0 : Int32), h3))
set_option maxHeartbeats 2000000 in
set_option maxRecDepth 20000 in
theorem M_L_completions {g : GT} {a0 : Nat} {a1 : Nat} {h : Hp} {r : Int32} {h2 : Hp} (hf : f_L_completions a0 a1 h = some (r, h2)) : CMW g yL_completions cL_completions 3 [(0, 8, 11, 25)] 23 [.ref a0, .ref a1] h r h2 := by
  refine CMW_of rfl rfl (fun _ => Nat.le_of_ble_eq_true rfl) (fun Γ C hn0 htab => ?_)
  have C : Cx g Γ cL_completions RL "completions" 3 (some .int) 23 1 6 := C
  generalize hQ : Qe g Γ (.inr (some (.int r))) h2 1 6 = Q
  show U g Γ 3 Q 0 0 0 [(0, .ref a0), (1, .ref a1)] [] h
  unfold f_L_completions at hf
  refine U_aload_n (n := 1) 1 C dL_completions_0 rfl rfl rfl ?_
  refine U_iconst (n := 2) (0 : Int32) C dL_completions_1 kiconst_0 rfl ?_
  refine U_aload_n (n := 3) 0 C dL_completions_2 rfl rfl rfl ?_
  rcases bsomeTW hf with ⟨kv1, h2x, ev1, hf⟩ | ⟨v1, h2, ev1, hf⟩
  · skip
    by_cases c : kv1 = 2
    · replace hf := (if_pos c).symm.trans hf
      subst c
      obtain ⟨hr1, hr2⟩ := Prod.mk.inj (Option.some.inj hf)
      subst hr1; subst hr2
      subst hQ
      exact U_xcatch 3 2 (av := []) [] ⟨0, 8, 11, 25⟩ [] C dL_completions_3 ml_RL_53 mw_X3_completions yn_X3_completions rfl (by decide) (rc_X3_completions ev1) (M_X3_completions ev1) (Nat.le_of_ble_eq_true rfl) (Nat.le_of_ble_eq_true rfl) htab (fun _ h => absurd h List.not_mem_nil) (by decide) (by decide) cl_RL_25 cst_2 (H_n C dL_completions_11 dL_completions_12 dL_completions_13 rfl rfl (by decide) kiconst_1)
    replace hf := (if_neg c).symm.trans hf
    cases hf
  refine cv_RL_53 (n := 6) C dL_completions_3 (av := []) rfl (rc_X3_completions ev1) (M_X3_completions ev1) (Nat.le_of_ble_eq_true rfl) (Nat.zero_le _) (Nat.zero_le _) (Nat.le_of_ble_eq_true rfl) rfl ?_
  refine U_i2l (n := 7) C dL_completions_6 rfl ?_
  refine U_last (n := 8) C dL_completions_7 hf rfl (fun h3 hf => ?_)
  refine U_goto (n := 0) (tgt := 14) C dL_completions_8 (by decide) ?_
  refine U_iconst (n := 15) (0 : Int32) C dL_completions_14 kiconst_0 rfl ?_
  obtain ⟨hr1, hr2⟩ := Prod.mk.inj (Option.some.inj hf)
  subst hr1; subst hr2
  subst hQ
  exact U_iret C dL_completions_15 (Nat.zero_le _) (Nat.zero_le _)
theorem yn_L_cocircuit : YN yL_cocircuit 4 := ⟨by decide +kernel, by decide +kernel, by decide +kernel⟩
def f_L_cocircuit (a0 : Nat) (a1 : Int32) (a2 : Int32) (a3 : Nat) (h : Hp) : Option (Int32 × Hp) :=
  bindT (f_X3_cocircuit a0 a1 a2 h) (fun kv1 => if kv1 = 1 then some ((1 : Int32), h) else if kv1 = 0 then some ((2 : Int32), h) else if kv1 = 2 then some ((3 : Int32), h) else none) fun v1 =>
  (wJ h a3 (0 : Int32) (v1).toInt64).bind fun h2 =>
  some (((0 : Int32), h2))
set_option maxHeartbeats 2000000 in
set_option maxRecDepth 20000 in
theorem M_L_cocircuit {g : GT} {a0 : Nat} {a1 : Int32} {a2 : Int32} {a3 : Nat} {h : Hp} {r : Int32} {h2 : Hp} (hf : f_L_cocircuit a0 a1 a2 a3 h = some (r, h2)) : CMW g yL_cocircuit cL_cocircuit 5 [(0, 10, 13, 19), (0, 10, 17, 13), (0, 10, 21, 25)] 10 [.ref a0, .int a1, .int a2, .ref a3] h r h2 := by
  refine CMW_of rfl rfl (fun _ => Nat.le_of_ble_eq_true rfl) (fun Γ C hn0 htab => ?_)
  have C : Cx g Γ cL_cocircuit RL "cocircuit" 5 (some .int) 10 1 6 := C
  generalize hQ : Qe g Γ (.inr (some (.int r))) h2 1 6 = Q
  show U g Γ 5 Q 0 0 0 [(0, .ref a0), (1, .int a1), (2, .int a2), (3, .ref a3)] [] h
  unfold f_L_cocircuit at hf
  refine U_aload_n (n := 1) 3 C dL_cocircuit_0 rfl rfl rfl ?_
  refine U_iconst (n := 2) (0 : Int32) C dL_cocircuit_1 kiconst_0 rfl ?_
  refine U_aload_n (n := 3) 0 C dL_cocircuit_2 rfl rfl rfl ?_
  refine U_iload_n (n := 4) 1 C dL_cocircuit_3 rfl rfl ?_
  refine U_iload_n (n := 5) 2 C dL_cocircuit_4 rfl rfl ?_
  rcases bsomeT hf with ⟨kv1, ev1, hf⟩ | ⟨v1, ev1, hf⟩
  · skip
    by_cases c : kv1 = 1
    · replace hf := (if_pos c).symm.trans hf
      subst c
      obtain ⟨hr1, hr2⟩ := Prod.mk.inj (Option.some.inj hf)
      subst hr1; subst hr2
      subst hQ
      exact U_xcatch 3 1 (av := [.int a1, .int a2]) [] ⟨0, 10, 13, 19⟩ [⟨0, 10, 17, 13⟩, ⟨0, 10, 21, 25⟩] C dL_cocircuit_5 ml_RL_57 mw_X3_cocircuit yn_X3_cocircuit rfl (by decide) (rc_X3_cocircuit ev1) (M_X3_cocircuit ev1) (Nat.le_of_ble_eq_true rfl) (Nat.le_of_ble_eq_true rfl) htab (fun _ h => absurd h List.not_mem_nil) (by decide) (by decide) cl_RL_19 cst_1 (H_w C dL_cocircuit_13 dL_cocircuit_15 dL_cocircuit_16 rfl rfl (by decide) kiconst_1)
    replace hf := (if_neg c).symm.trans hf
    by_cases c : kv1 = 0
    · replace hf := (if_pos c).symm.trans hf
      subst c
      obtain ⟨hr1, hr2⟩ := Prod.mk.inj (Option.some.inj hf)
      subst hr1; subst hr2
      subst hQ
      exact U_xcatch 3 0 (av := [.int a1, .int a2]) [⟨0, 10, 13, 19⟩] ⟨0, 10, 17, 13⟩ [⟨0, 10, 21, 25⟩] C dL_cocircuit_5 ml_RL_57 mw_X3_cocircuit yn_X3_cocircuit rfl (by decide) (rc_X3_cocircuit ev1) (M_X3_cocircuit ev1) (Nat.le_of_ble_eq_true rfl) (Nat.le_of_ble_eq_true rfl) htab (List.forall_mem_cons.mpr ⟨⟨by decide, _, cl_RL_19, C.nc1⟩, (fun _ h => absurd h List.not_mem_nil)⟩) (by decide) (by decide) cl_RL_13 cst_0 (H_w C dL_cocircuit_17 dL_cocircuit_19 dL_cocircuit_20 rfl rfl (by decide) kiconst_2)
    replace hf := (if_neg c).symm.trans hf
    by_cases c : kv1 = 2
    · replace hf := (if_pos c).symm.trans hf
      subst c
      obtain ⟨hr1, hr2⟩ := Prod.mk.inj (Option.some.inj hf)
      subst hr1; subst hr2
      subst hQ
      exact U_xcatch 3 2 (av := [.int a1, .int a2]) [⟨0, 10, 13, 19⟩, ⟨0, 10, 17, 13⟩] ⟨0, 10, 21, 25⟩ [] C dL_cocircuit_5 ml_RL_57 mw_X3_cocircuit yn_X3_cocircuit rfl (by decide) (rc_X3_cocircuit ev1) (M_X3_cocircuit ev1) (Nat.le_of_ble_eq_true rfl) (Nat.le_of_ble_eq_true rfl) htab (List.forall_mem_cons.mpr ⟨⟨by decide, _, cl_RL_19, C.nc2⟩, (List.forall_mem_cons.mpr ⟨⟨by decide, _, cl_RL_13, C.nc3⟩, (fun _ h => absurd h List.not_mem_nil)⟩)⟩) (by decide) (by decide) cl_RL_25 cst_2 (H_w C dL_cocircuit_21 dL_cocircuit_23 dL_cocircuit_24 rfl rfl (by decide) kiconst_3)
    replace hf := (if_neg c).symm.trans hf
    cases hf
  refine cv_RL_57 (n := 8) C dL_cocircuit_5 (av := [.int a1, .int a2]) rfl (rc_X3_cocircuit ev1) (M_X3_cocircuit ev1) (Nat.le_of_ble_eq_true rfl) (Nat.zero_le _) (Nat.zero_le _) (Nat.le_of_ble_eq_true rfl) rfl ?_
  refine U_i2l (n := 9) C dL_cocircuit_8 rfl ?_
  refine U_last (n := 10) C dL_cocircuit_9 hf rfl (fun h2 hf => ?_)
  refine U_goto (n := 0) (tgt := 25) C dL_cocircuit_10 (by decide) ?_
  refine U_iconst (n := 26) (0 : Int32) C dL_cocircuit_25 kiconst_0 rfl ?_
  obtain ⟨hr1, hr2⟩ := Prod.mk.inj (Option.some.inj hf)
  subst hr1; subst hr2
  subst hQ
  exact U_iret C dL_cocircuit_26 (Nat.zero_le _) (Nat.zero_le _)
theorem yn_L_isExtreme : YN yL_isExtreme 3 := ⟨by decide +kernel, by decide +kernel, by decide +kernel⟩
def f_L_isExtreme (a0 : Nat) (a1 : Int32) (a2 : Nat) (h : Hp) : Option (Int32 × Hp) :=
  bindT (f_X3_isExtreme a0 a1 h) (fun kv1 => if kv1 = 1 then some ((1 : Int32), h) else none) fun v1 =>
  if v1 = 0 then (
    (wJ h a2 (0 : Int32) (0 : Int64)).bind fun h3 =>
    some (((0 : Int32), h3))
  ) else (
    (wJ h a2 (0 : Int32) (1 : Int64)).bind fun h4 =>
    some (((0 : Int32), h4))
  )
set_option maxHeartbeats 2000000 in
set_option maxRecDepth 20000 in
theorem M_L_isExtreme {g : GT} {a0 : Nat} {a1 : Int32} {a2 : Nat} {h : Hp} {r : Int32} {h2 : Hp} (hf : f_L_isExtreme a0 a1 a2 h = some (r, h2)) : CMW g yL_isExtreme cL_isExtreme 4 [(0, 16, 19, 19)] 11 [.ref a0, .int a1, .ref a2] h r h2 := by
  refine CMW_of rfl rfl (fun _ => Nat.le_of_ble_eq_true rfl) (fun Γ C hn0 htab => ?_)
  have C : Cx g Γ cL_isExtreme RL "isExtreme" 4 (some .int) 11 1 6 := C
  generalize hQ : Qe g Γ (.inr (some (.int r))) h2 1 6 = Q
  show U g Γ 4 Q 0 0 0 [(0, .ref a0), (1, .int a1), (2, .ref a2)] [] h
  unfold f_L_isExtreme at hf
  refine U_aload_n (n := 1) 2 C dL_isExtreme_0 rfl rfl rfl ?_
  refine U_iconst (n := 2) (0 : Int32) C dL_isExtreme_1 kiconst_0 rfl ?_
  refine U_aload_n (n := 3) 0 C dL_isExtreme_2 rfl rfl rfl ?_
  refine U_iload_n (n := 4) 1 C dL_isExtreme_3 rfl rfl ?_
  rcases bsomeT hf with ⟨kv1, ev1, hf⟩ | ⟨v1, ev1, hf⟩
  · skip
    by_cases c : kv1 = 1
    · replace hf := (if_pos c).symm.trans hf
      subst c
      obtain ⟨hr1, hr2⟩ := Prod.mk.inj (Option.some.inj hf)
      subst hr1; subst hr2
      subst hQ
      exact U_xcatch 3 1 (av := [.int a1]) [] ⟨0, 16, 19, 19⟩ [] C dL_isExtreme_4 ml_RL_60 mw_X3_isExtreme yn_X3_isExtreme rfl (by decide) (rc_X3_isExtreme ev1) (M_X3_isExtreme ev1) (Nat.le_of_ble_eq_true rfl) (Nat.le_of_ble_eq_true rfl) htab (fun _ h => absurd h List.not_mem_nil) (by decide) (by decide) cl_RL_19 cst_1 (H_n C dL_isExtreme_19 dL_isExtreme_20 dL_isExtreme_21 rfl rfl (by decide) kiconst_1)
    replace hf := (if_neg c).symm.trans hf
    cases hf
  refine cv_RL_60 (n := 7) C dL_isExtreme_4 (av := [.int a1]) rfl (rc_X3_isExtreme ev1) (M_X3_isExtreme ev1) (Nat.le_of_ble_eq_true rfl) (Nat.zero_le _) (Nat.zero_le _) (Nat.le_of_ble_eq_true rfl) rfl ?_
  refine U_ifeq (tgt := 14) (n := 10) C dL_isExtreme_7 (by decide) rfl (fun c2 => ?_) (fun c2 => ?_)
  · replace hf := (if_pos c2).symm.trans hf
    refine U_lconst (n := 15) (0 : Int64) C dL_isExtreme_14 klconst_0 rfl ?_
    refine U_last (n := 16) C dL_isExtreme_15 hf rfl (fun h3 hf => ?_)
    refine U_goto (n := 0) (tgt := 22) C dL_isExtreme_16 (by decide) ?_
    refine U_iconst (n := 23) (0 : Int32) C dL_isExtreme_22 kiconst_0 rfl ?_
    obtain ⟨hr1, hr2⟩ := Prod.mk.inj (Option.some.inj hf)
    subst hr1; subst hr2
    subst hQ
    exact U_iret C dL_isExtreme_23 (Nat.zero_le _) (Nat.zero_le _)
  · replace hf := (if_neg c2).symm.trans hf
    refine U_lconst (n := 11) (1 : Int64) C dL_isExtreme_10 klconst_1 rfl ?_
    refine U_goto (n := 0) (tgt := 15) C dL_isExtreme_11 (by decide) ?_
    refine U_last (n := 16) C dL_isExtreme_15 hf rfl (fun h4 hf => ?_)
    refine U_goto (n := 0) (tgt := 22) C dL_isExtreme_16 (by decide) ?_
    refine U_iconst (n := 23) (0 : Int32) C dL_isExtreme_22 kiconst_0 rfl ?_
    obtain ⟨hr1, hr2⟩ := Prod.mk.inj (Option.some.inj hf)
    subst hr1; subst hr2
    subst hQ
    exact U_iret C dL_isExtreme_23 (Nat.zero_le _) (Nat.zero_le _)
theorem yn_L_lines : YN yL_lines 2 := ⟨by decide +kernel, by decide +kernel, by decide +kernel⟩
def f_L_lines (a0 : Nat) (a1 : Nat) (h : Hp) : Option (Int32 × Hp) :=
  bindTW (f_X3_lines a0 h) (fun kv1 h2x => if kv1 = 2 then some ((1 : Int32), h2x) else none) fun v1 h2 =>
  (wJ h2 a1 (0 : Int32) (v1).toInt64).bind fun h3 =>
  some (((0 : Int32), h3))
set_option maxHeartbeats 2000000 in
set_option maxRecDepth 20000 in
theorem M_L_lines {g : GT} {a0 : Nat} {a1 : Nat} {h : Hp} {r : Int32} {h2 : Hp} (hf : f_L_lines a0 a1 h = some (r, h2)) : CMW g yL_lines cL_lines 3 [(0, 8, 11, 25)] 11 [.ref a0, .ref a1] h r h2 := by
  refine CMW_of rfl rfl (fun _ => Nat.le_of_ble_eq_true rfl) (fun Γ C hn0 htab => ?_)
  have C : Cx g Γ cL_lines RL "lines" 3 (some .int) 11 1 6 := C
  generalize hQ : Qe g Γ (.inr (some (.int r))) h2 1 6 = Q
  show U g Γ 3 Q 0 0 0 [(0, .ref a0), (1, .ref a1)] [] h
  unfold f_L_lines at hf
  refine U_aload_n (n := 1) 1 C dL_lines_0 rfl rfl rfl ?_
  refine U_iconst (n := 2) (0 : Int32) C dL_lines_1 kiconst_0 rfl ?_
  refine U_aload_n (n := 3) 0 C dL_lines_2 rfl rfl rfl ?_
  rcases bsomeTW hf with ⟨kv1, h2x, ev1, hf⟩ | ⟨v1, h2, ev1, hf⟩
  · skip
    by_cases c : kv1 = 2
    · replace hf := (if_pos c).symm.trans hf
      subst c
      obtain ⟨hr1, hr2⟩ := Prod.mk.inj (Option.some.inj hf)
      subst hr1; subst hr2
      subst hQ
      exact U_xcatch 3 2 (av := []) [] ⟨0, 8, 11, 25⟩ [] C dL_lines_3 ml_RL_64 mw_X3_lines yn_X3_lines rfl (by decide) (rc_X3_lines ev1) (M_X3_lines ev1) (Nat.le_of_ble_eq_true rfl) (Nat.le_of_ble_eq_true rfl) htab (fun _ h => absurd h List.not_mem_nil) (by decide) (by decide) cl_RL_25 cst_2 (H_n C dL_lines_11 dL_lines_12 dL_lines_13 rfl rfl (by decide) kiconst_1)
    replace hf := (if_neg c).symm.trans hf
    cases hf
  refine cv_RL_64 (n := 6) C dL_lines_3 (av := []) rfl (rc_X3_lines ev1) (M_X3_lines ev1) (Nat.le_of_ble_eq_true rfl) (Nat.zero_le _) (Nat.zero_le _) (Nat.le_of_ble_eq_true rfl) rfl ?_
  refine U_i2l (n := 7) C dL_lines_6 rfl ?_
  refine U_last (n := 8) C dL_lines_7 hf rfl (fun h3 hf => ?_)
  refine U_goto (n := 0) (tgt := 14) C dL_lines_8 (by decide) ?_
  refine U_iconst (n := 15) (0 : Int32) C dL_lines_14 kiconst_0 rfl ?_
  obtain ⟨hr1, hr2⟩ := Prod.mk.inj (Option.some.inj hf)
  subst hr1; subst hr2
  subst hQ
  exact U_iret C dL_lines_15 (Nat.zero_le _) (Nat.zero_le _)
theorem yn_L_place : YN yL_place 5 := ⟨by decide +kernel, by decide +kernel, by decide +kernel⟩
def f_L_place (a0 : Nat) (a1 : Int32) (a2 : Int32) (a3 : Int32) (a4 : Nat) (h : Hp) : Option (Int32 × Hp) :=
  bindTW (f_X3_place a0 a1 a2 a3 h) (fun kv1 h2x => if kv1 = 1 then some ((1 : Int32), h2x) else if kv1 = 0 then some ((2 : Int32), h2x) else none) fun v1 h2 =>
  if v1 = 0 then (
    (wJ h2 a4 (0 : Int32) (0 : Int64)).bind fun h4 =>
    some (((0 : Int32), h4))
  ) else (
    (wJ h2 a4 (0 : Int32) (1 : Int64)).bind fun h5 =>
    some (((0 : Int32), h5))
  )
set_option maxHeartbeats 2000000 in
set_option maxRecDepth 20000 in
theorem M_L_place {g : GT} {a0 : Nat} {a1 : Int32} {a2 : Int32} {a3 : Int32} {a4 : Nat} {h : Hp} {r : Int32} {h2 : Hp} (hf : f_L_place a0 a1 a2 a3 a4 h = some (r, h2)) : CMW g yL_place cL_place 6 [(0, 19, 22, 19), (0, 19, 26, 13)] 9 [.ref a0, .int a1, .int a2, .int a3, .ref a4] h r h2 := by
  refine CMW_of rfl rfl (fun _ => Nat.le_of_ble_eq_true rfl) (fun Γ C hn0 htab => ?_)
  have C : Cx g Γ cL_place RL "place" 6 (some .int) 9 1 6 := C
  generalize hQ : Qe g Γ (.inr (some (.int r))) h2 1 6 = Q
  show U g Γ 6 Q 0 0 0 [(0, .ref a0), (1, .int a1), (2, .int a2), (3, .int a3), (4, .ref a4)] [] h
  unfold f_L_place at hf
  refine U_aload (n := 2) 4 C dL_place_0 rfl rfl rfl ?_
  refine U_iconst (n := 3) (0 : Int32) C dL_place_2 kiconst_0 rfl ?_
  refine U_aload_n (n := 4) 0 C dL_place_3 rfl rfl rfl ?_
  refine U_iload_n (n := 5) 1 C dL_place_4 rfl rfl ?_
  refine U_iload_n (n := 6) 2 C dL_place_5 rfl rfl ?_
  refine U_iload_n (n := 7) 3 C dL_place_6 rfl rfl ?_
  rcases bsomeTW hf with ⟨kv1, h2x, ev1, hf⟩ | ⟨v1, h2, ev1, hf⟩
  · skip
    by_cases c : kv1 = 1
    · replace hf := (if_pos c).symm.trans hf
      subst c
      obtain ⟨hr1, hr2⟩ := Prod.mk.inj (Option.some.inj hf)
      subst hr1; subst hr2
      subst hQ
      exact U_xcatch 3 1 (av := [.int a1, .int a2, .int a3]) [] ⟨0, 19, 22, 19⟩ [⟨0, 19, 26, 13⟩] C dL_place_7 ml_RL_67 mw_X3_place yn_X3_place rfl (by decide) (rc_X3_place ev1) (M_X3_place ev1) (Nat.le_of_ble_eq_true rfl) (Nat.le_of_ble_eq_true rfl) htab (fun _ h => absurd h List.not_mem_nil) (by decide) (by decide) cl_RL_19 cst_1 (H_w C dL_place_22 dL_place_24 dL_place_25 rfl rfl (by decide) kiconst_1)
    replace hf := (if_neg c).symm.trans hf
    by_cases c : kv1 = 0
    · replace hf := (if_pos c).symm.trans hf
      subst c
      obtain ⟨hr1, hr2⟩ := Prod.mk.inj (Option.some.inj hf)
      subst hr1; subst hr2
      subst hQ
      exact U_xcatch 3 0 (av := [.int a1, .int a2, .int a3]) [⟨0, 19, 22, 19⟩] ⟨0, 19, 26, 13⟩ [] C dL_place_7 ml_RL_67 mw_X3_place yn_X3_place rfl (by decide) (rc_X3_place ev1) (M_X3_place ev1) (Nat.le_of_ble_eq_true rfl) (Nat.le_of_ble_eq_true rfl) htab (List.forall_mem_cons.mpr ⟨⟨by decide, _, cl_RL_19, C.nc1⟩, (fun _ h => absurd h List.not_mem_nil)⟩) (by decide) (by decide) cl_RL_13 cst_0 (H_w C dL_place_26 dL_place_28 dL_place_29 rfl rfl (by decide) kiconst_2)
    replace hf := (if_neg c).symm.trans hf
    cases hf
  refine cv_RL_67 (n := 10) C dL_place_7 (av := [.int a1, .int a2, .int a3]) rfl (rc_X3_place ev1) (M_X3_place ev1) (Nat.le_of_ble_eq_true rfl) (Nat.zero_le _) (Nat.zero_le _) (Nat.le_of_ble_eq_true rfl) rfl ?_
  refine U_ifeq (tgt := 17) (n := 13) C dL_place_10 (by decide) rfl (fun c3 => ?_) (fun c3 => ?_)
  · replace hf := (if_pos c3).symm.trans hf
    refine U_lconst (n := 18) (0 : Int64) C dL_place_17 klconst_0 rfl ?_
    refine U_last (n := 19) C dL_place_18 hf rfl (fun h4 hf => ?_)
    refine U_goto (n := 0) (tgt := 30) C dL_place_19 (by decide) ?_
    refine U_iconst (n := 31) (0 : Int32) C dL_place_30 kiconst_0 rfl ?_
    obtain ⟨hr1, hr2⟩ := Prod.mk.inj (Option.some.inj hf)
    subst hr1; subst hr2
    subst hQ
    exact U_iret C dL_place_31 (Nat.zero_le _) (Nat.zero_le _)
  · replace hf := (if_neg c3).symm.trans hf
    refine U_lconst (n := 14) (1 : Int64) C dL_place_13 klconst_1 rfl ?_
    refine U_goto (n := 0) (tgt := 18) C dL_place_14 (by decide) ?_
    refine U_last (n := 19) C dL_place_18 hf rfl (fun h5 hf => ?_)
    refine U_goto (n := 0) (tgt := 30) C dL_place_19 (by decide) ?_
    refine U_iconst (n := 31) (0 : Int32) C dL_place_30 kiconst_0 rfl ?_
    obtain ⟨hr1, hr2⟩ := Prod.mk.inj (Option.some.inj hf)
    subst hr1; subst hr2
    subst hQ
    exact U_iret C dL_place_31 (Nat.zero_le _) (Nat.zero_le _)
theorem yn_L_coordinate : YN yL_coordinate 4 := ⟨by decide +kernel, by decide +kernel, by decide +kernel⟩
def f_L_coordinate (a0 : Nat) (a1 : Int32) (a2 : Int32) (a3 : Nat) (h : Hp) : Option (Int32 × Hp) :=
  bindT (f_X3_coordinate a0 a1 a2 h) (fun kv1 => if kv1 = 1 then some ((1 : Int32), h) else if kv1 = 0 then some ((2 : Int32), h) else none) fun v1 =>
  (wJ h a3 (0 : Int32) (v1).toInt64).bind fun h2 =>
  some (((0 : Int32), h2))
set_option maxHeartbeats 2000000 in
set_option maxRecDepth 20000 in
theorem M_L_coordinate {g : GT} {a0 : Nat} {a1 : Int32} {a2 : Int32} {a3 : Nat} {h : Hp} {r : Int32} {h2 : Hp} (hf : f_L_coordinate a0 a1 a2 a3 h = some (r, h2)) : CMW g yL_coordinate cL_coordinate 5 [(0, 10, 13, 19), (0, 10, 17, 13)] 9 [.ref a0, .int a1, .int a2, .ref a3] h r h2 := by
  refine CMW_of rfl rfl (fun _ => Nat.le_of_ble_eq_true rfl) (fun Γ C hn0 htab => ?_)
  have C : Cx g Γ cL_coordinate RL "coordinate" 5 (some .int) 9 1 6 := C
  generalize hQ : Qe g Γ (.inr (some (.int r))) h2 1 6 = Q
  show U g Γ 5 Q 0 0 0 [(0, .ref a0), (1, .int a1), (2, .int a2), (3, .ref a3)] [] h
  unfold f_L_coordinate at hf
  refine U_aload_n (n := 1) 3 C dL_coordinate_0 rfl rfl rfl ?_
  refine U_iconst (n := 2) (0 : Int32) C dL_coordinate_1 kiconst_0 rfl ?_
  refine U_aload_n (n := 3) 0 C dL_coordinate_2 rfl rfl rfl ?_
  refine U_iload_n (n := 4) 1 C dL_coordinate_3 rfl rfl ?_
  refine U_iload_n (n := 5) 2 C dL_coordinate_4 rfl rfl ?_
  rcases bsomeT hf with ⟨kv1, ev1, hf⟩ | ⟨v1, ev1, hf⟩
  · skip
    by_cases c : kv1 = 1
    · replace hf := (if_pos c).symm.trans hf
      subst c
      obtain ⟨hr1, hr2⟩ := Prod.mk.inj (Option.some.inj hf)
      subst hr1; subst hr2
      subst hQ
      exact U_xcatch 3 1 (av := [.int a1, .int a2]) [] ⟨0, 10, 13, 19⟩ [⟨0, 10, 17, 13⟩] C dL_coordinate_5 ml_RL_71 mw_X3_coordinate yn_X3_coordinate rfl (by decide) (rc_X3_coordinate ev1) (M_X3_coordinate ev1) (Nat.le_of_ble_eq_true rfl) (Nat.le_of_ble_eq_true rfl) htab (fun _ h => absurd h List.not_mem_nil) (by decide) (by decide) cl_RL_19 cst_1 (H_w C dL_coordinate_13 dL_coordinate_15 dL_coordinate_16 rfl rfl (by decide) kiconst_1)
    replace hf := (if_neg c).symm.trans hf
    by_cases c : kv1 = 0
    · replace hf := (if_pos c).symm.trans hf
      subst c
      obtain ⟨hr1, hr2⟩ := Prod.mk.inj (Option.some.inj hf)
      subst hr1; subst hr2
      subst hQ
      exact U_xcatch 3 0 (av := [.int a1, .int a2]) [⟨0, 10, 13, 19⟩] ⟨0, 10, 17, 13⟩ [] C dL_coordinate_5 ml_RL_71 mw_X3_coordinate yn_X3_coordinate rfl (by decide) (rc_X3_coordinate ev1) (M_X3_coordinate ev1) (Nat.le_of_ble_eq_true rfl) (Nat.le_of_ble_eq_true rfl) htab (List.forall_mem_cons.mpr ⟨⟨by decide, _, cl_RL_19, C.nc1⟩, (fun _ h => absurd h List.not_mem_nil)⟩) (by decide) (by decide) cl_RL_13 cst_0 (H_w C dL_coordinate_17 dL_coordinate_19 dL_coordinate_20 rfl rfl (by decide) kiconst_2)
    replace hf := (if_neg c).symm.trans hf
    cases hf
  refine cv_RL_71 (n := 8) C dL_coordinate_5 (av := [.int a1, .int a2]) rfl (rc_X3_coordinate ev1) (M_X3_coordinate ev1) (Nat.le_of_ble_eq_true rfl) (Nat.zero_le _) (Nat.zero_le _) (Nat.le_of_ble_eq_true rfl) rfl ?_
  refine U_i2l (n := 9) C dL_coordinate_8 rfl ?_
  refine U_last (n := 10) C dL_coordinate_9 hf rfl (fun h2 hf => ?_)
  refine U_goto (n := 0) (tgt := 21) C dL_coordinate_10 (by decide) ?_
  refine U_iconst (n := 22) (0 : Int32) C dL_coordinate_21 kiconst_0 rfl ?_
  obtain ⟨hr1, hr2⟩ := Prod.mk.inj (Option.some.inj hf)
  subst hr1; subst hr2
  subst hQ
  exact U_iret C dL_coordinate_22 (Nat.zero_le _) (Nat.zero_le _)
theorem yn_L_scatter : YN yL_scatter 5 := ⟨by decide +kernel, by decide +kernel, by decide +kernel⟩
def f_L_scatter (a0 : Nat) (a1 : Int32) (a2 : Int32) (a3 : Int32) (a4 : Nat) (h : Hp) : Option (Int32 × Hp) :=
  bindTW (f_X3_scatter a0 a1 a2 a3 h) (fun kv1 h2x => if kv1 = 0 then some ((1 : Int32), h2x) else none) fun v1 h2 =>
  (wJ h2 a4 (0 : Int32) (v1).toInt64).bind fun h3 =>
  some (((0 : Int32), h3))
set_option maxHeartbeats 2000000 in
set_option maxRecDepth 20000 in
theorem M_L_scatter {g : GT} {a0 : Nat} {a1 : Int32} {a2 : Int32} {a3 : Int32} {a4 : Nat} {h : Hp} {r : Int32} {h2 : Hp} (hf : f_L_scatter a0 a1 a2 a3 a4 h = some (r, h2)) : CMW g yL_scatter cL_scatter 6 [(0, 12, 15, 13)] 10 [.ref a0, .int a1, .int a2, .int a3, .ref a4] h r h2 := by
  refine CMW_of rfl rfl (fun _ => Nat.le_of_ble_eq_true rfl) (fun Γ C hn0 htab => ?_)
  have C : Cx g Γ cL_scatter RL "scatter" 6 (some .int) 10 1 6 := C
  generalize hQ : Qe g Γ (.inr (some (.int r))) h2 1 6 = Q
  show U g Γ 6 Q 0 0 0 [(0, .ref a0), (1, .int a1), (2, .int a2), (3, .int a3), (4, .ref a4)] [] h
  unfold f_L_scatter at hf
  refine U_aload (n := 2) 4 C dL_scatter_0 rfl rfl rfl ?_
  refine U_iconst (n := 3) (0 : Int32) C dL_scatter_2 kiconst_0 rfl ?_
  refine U_aload_n (n := 4) 0 C dL_scatter_3 rfl rfl rfl ?_
  refine U_iload_n (n := 5) 1 C dL_scatter_4 rfl rfl ?_
  refine U_iload_n (n := 6) 2 C dL_scatter_5 rfl rfl ?_
  refine U_iload_n (n := 7) 3 C dL_scatter_6 rfl rfl ?_
  rcases bsomeTW hf with ⟨kv1, h2x, ev1, hf⟩ | ⟨v1, h2, ev1, hf⟩
  · skip
    by_cases c : kv1 = 0
    · replace hf := (if_pos c).symm.trans hf
      subst c
      obtain ⟨hr1, hr2⟩ := Prod.mk.inj (Option.some.inj hf)
      subst hr1; subst hr2
      subst hQ
      exact U_xcatch 3 0 (av := [.int a1, .int a2, .int a3]) [] ⟨0, 12, 15, 13⟩ [] C dL_scatter_7 ml_RL_74 mw_X3_scatter yn_X3_scatter rfl (by decide) (rc_X3_scatter ev1) (M_X3_scatter ev1) (Nat.le_of_ble_eq_true rfl) (Nat.le_of_ble_eq_true rfl) htab (fun _ h => absurd h List.not_mem_nil) (by decide) (by decide) cl_RL_13 cst_0 (H_w C dL_scatter_15 dL_scatter_17 dL_scatter_18 rfl rfl (by decide) kiconst_1)
    replace hf := (if_neg c).symm.trans hf
    cases hf
  refine cv_RL_74 (n := 10) C dL_scatter_7 (av := [.int a1, .int a2, .int a3]) rfl (rc_X3_scatter ev1) (M_X3_scatter ev1) (Nat.le_of_ble_eq_true rfl) (Nat.zero_le _) (Nat.zero_le _) (Nat.le_of_ble_eq_true rfl) rfl ?_
  refine U_i2l (n := 11) C dL_scatter_10 rfl ?_
  refine U_last (n := 12) C dL_scatter_11 hf rfl (fun h3 hf => ?_)
  refine U_goto (n := 0) (tgt := 19) C dL_scatter_12 (by decide) ?_
  refine U_iconst (n := 20) (0 : Int32) C dL_scatter_19 kiconst_0 rfl ?_
  obtain ⟨hr1, hr2⟩ := Prod.mk.inj (Option.some.inj hf)
  subst hr1; subst hr2
  subst hQ
  exact U_iret C dL_scatter_20 (Nat.zero_le _) (Nat.zero_le _)
theorem yn_L_type : YN yL_type 3 := ⟨by decide +kernel, by decide +kernel, by decide +kernel⟩
def f_L_type (a0 : Nat) (a1 : Int32) (a2 : Nat) (h : Hp) : Option (Int32 × Hp) :=
  bindTW (f_X3_type a0 a1 h) (fun kv1 h2x => if kv1 = 0 then some ((1 : Int32), h2x) else if kv1 = 2 then some ((2 : Int32), h2x) else none) fun v1 h2 =>
  (wJ h2 a2 (0 : Int32) (v1).toInt64).bind fun h3 =>
  some (((0 : Int32), h3))
set_option maxHeartbeats 2000000 in
set_option maxRecDepth 20000 in
theorem M_L_type {g : GT} {a0 : Nat} {a1 : Int32} {a2 : Nat} {h : Hp} {r : Int32} {h2 : Hp} (hf : f_L_type a0 a1 a2 h = some (r, h2)) : CMW g yL_type cL_type 4 [(0, 9, 12, 13), (0, 9, 15, 25)] 7 [.ref a0, .int a1, .ref a2] h r h2 := by
  refine CMW_of rfl rfl (fun _ => Nat.le_of_ble_eq_true rfl) (fun Γ C hn0 htab => ?_)
  have C : Cx g Γ cL_type RL "type" 4 (some .int) 7 1 6 := C
  generalize hQ : Qe g Γ (.inr (some (.int r))) h2 1 6 = Q
  show U g Γ 4 Q 0 0 0 [(0, .ref a0), (1, .int a1), (2, .ref a2)] [] h
  unfold f_L_type at hf
  refine U_aload_n (n := 1) 2 C dL_type_0 rfl rfl rfl ?_
  refine U_iconst (n := 2) (0 : Int32) C dL_type_1 kiconst_0 rfl ?_
  refine U_aload_n (n := 3) 0 C dL_type_2 rfl rfl rfl ?_
  refine U_iload_n (n := 4) 1 C dL_type_3 rfl rfl ?_
  rcases bsomeTW hf with ⟨kv1, h2x, ev1, hf⟩ | ⟨v1, h2, ev1, hf⟩
  · skip
    by_cases c : kv1 = 0
    · replace hf := (if_pos c).symm.trans hf
      subst c
      obtain ⟨hr1, hr2⟩ := Prod.mk.inj (Option.some.inj hf)
      subst hr1; subst hr2
      subst hQ
      exact U_xcatch 3 0 (av := [.int a1]) [] ⟨0, 9, 12, 13⟩ [⟨0, 9, 15, 25⟩] C dL_type_4 ml_RL_77 mw_X3_type yn_X3_type rfl (by decide) (rc_X3_type ev1) (M_X3_type ev1) (Nat.le_of_ble_eq_true rfl) (Nat.le_of_ble_eq_true rfl) htab (fun _ h => absurd h List.not_mem_nil) (by decide) (by decide) cl_RL_13 cst_0 (H_n C dL_type_12 dL_type_13 dL_type_14 rfl rfl (by decide) kiconst_1)
    replace hf := (if_neg c).symm.trans hf
    by_cases c : kv1 = 2
    · replace hf := (if_pos c).symm.trans hf
      subst c
      obtain ⟨hr1, hr2⟩ := Prod.mk.inj (Option.some.inj hf)
      subst hr1; subst hr2
      subst hQ
      exact U_xcatch 3 2 (av := [.int a1]) [⟨0, 9, 12, 13⟩] ⟨0, 9, 15, 25⟩ [] C dL_type_4 ml_RL_77 mw_X3_type yn_X3_type rfl (by decide) (rc_X3_type ev1) (M_X3_type ev1) (Nat.le_of_ble_eq_true rfl) (Nat.le_of_ble_eq_true rfl) htab (List.forall_mem_cons.mpr ⟨⟨by decide, _, cl_RL_13, C.nc3⟩, (fun _ h => absurd h List.not_mem_nil)⟩) (by decide) (by decide) cl_RL_25 cst_2 (H_n C dL_type_15 dL_type_16 dL_type_17 rfl rfl (by decide) kiconst_2)
    replace hf := (if_neg c).symm.trans hf
    cases hf
  refine cv_RL_77 (n := 7) C dL_type_4 (av := [.int a1]) rfl (rc_X3_type ev1) (M_X3_type ev1) (Nat.le_of_ble_eq_true rfl) (Nat.zero_le _) (Nat.zero_le _) (Nat.le_of_ble_eq_true rfl) rfl ?_
  refine U_i2l (n := 8) C dL_type_7 rfl ?_
  refine U_last (n := 9) C dL_type_8 hf rfl (fun h3 hf => ?_)
  refine U_goto (n := 0) (tgt := 18) C dL_type_9 (by decide) ?_
  refine U_iconst (n := 19) (0 : Int32) C dL_type_18 kiconst_0 rfl ?_
  obtain ⟨hr1, hr2⟩ := Prod.mk.inj (Option.some.inj hf)
  subst hr1; subst hr2
  subst hQ
  exact U_iret C dL_type_19 (Nat.zero_le _) (Nat.zero_le _)
theorem yn_L_written : YN yL_written 3 := ⟨by decide +kernel, by decide +kernel, by decide +kernel⟩
def f_L_written (a0 : Nat) (a1 : Int32) (a2 : Nat) (h : Hp) : Option (Int32 × Hp) :=
  bindT (f_X3_written a0 a1 h) (fun kv1 => if kv1 = 0 then some ((1 : Int32), h) else none) fun v1 =>
  (wJ h a2 (0 : Int32) (v1).toInt64).bind fun h2 =>
  some (((0 : Int32), h2))
set_option maxHeartbeats 2000000 in
set_option maxRecDepth 20000 in
theorem M_L_written {g : GT} {a0 : Nat} {a1 : Int32} {a2 : Nat} {h : Hp} {r : Int32} {h2 : Hp} (hf : f_L_written a0 a1 a2 h = some (r, h2)) : CMW g yL_written cL_written 4 [(0, 9, 12, 13)] 9 [.ref a0, .int a1, .ref a2] h r h2 := by
  refine CMW_of rfl rfl (fun _ => Nat.le_of_ble_eq_true rfl) (fun Γ C hn0 htab => ?_)
  have C : Cx g Γ cL_written RL "written" 4 (some .int) 9 1 6 := C
  generalize hQ : Qe g Γ (.inr (some (.int r))) h2 1 6 = Q
  show U g Γ 4 Q 0 0 0 [(0, .ref a0), (1, .int a1), (2, .ref a2)] [] h
  unfold f_L_written at hf
  refine U_aload_n (n := 1) 2 C dL_written_0 rfl rfl rfl ?_
  refine U_iconst (n := 2) (0 : Int32) C dL_written_1 kiconst_0 rfl ?_
  refine U_aload_n (n := 3) 0 C dL_written_2 rfl rfl rfl ?_
  refine U_iload_n (n := 4) 1 C dL_written_3 rfl rfl ?_
  rcases bsomeT hf with ⟨kv1, ev1, hf⟩ | ⟨v1, ev1, hf⟩
  · skip
    by_cases c : kv1 = 0
    · replace hf := (if_pos c).symm.trans hf
      subst c
      obtain ⟨hr1, hr2⟩ := Prod.mk.inj (Option.some.inj hf)
      subst hr1; subst hr2
      subst hQ
      exact U_xcatch 3 0 (av := [.int a1]) [] ⟨0, 9, 12, 13⟩ [] C dL_written_4 ml_RL_80 mw_X3_written yn_X3_written rfl (by decide) (rc_X3_written ev1) (M_X3_written ev1) (Nat.le_of_ble_eq_true rfl) (Nat.le_of_ble_eq_true rfl) htab (fun _ h => absurd h List.not_mem_nil) (by decide) (by decide) cl_RL_13 cst_0 (H_n C dL_written_12 dL_written_13 dL_written_14 rfl rfl (by decide) kiconst_1)
    replace hf := (if_neg c).symm.trans hf
    cases hf
  refine cv_RL_80 (n := 7) C dL_written_4 (av := [.int a1]) rfl (rc_X3_written ev1) (M_X3_written ev1) (Nat.le_of_ble_eq_true rfl) (Nat.zero_le _) (Nat.zero_le _) (Nat.le_of_ble_eq_true rfl) rfl ?_
  refine U_i2l (n := 8) C dL_written_7 rfl ?_
  refine U_last (n := 9) C dL_written_8 hf rfl (fun h2 hf => ?_)
  refine U_goto (n := 0) (tgt := 15) C dL_written_9 (by decide) ?_
  refine U_iconst (n := 16) (0 : Int32) C dL_written_15 kiconst_0 rfl ?_
  obtain ⟨hr1, hr2⟩ := Prod.mk.inj (Option.some.inj hf)
  subst hr1; subst hr2
  subst hQ
  exact U_iret C dL_written_16 (Nat.zero_le _) (Nat.zero_le _)
theorem yn_L_undo : YN yL_undo 2 := ⟨by decide +kernel, by decide +kernel, by decide +kernel⟩
def f_L_undo (a0 : Nat) (a1 : Nat) (h : Hp) : Option (Int32 × Hp) :=
  bindTW (f_X3_undo a0 h) (fun kv1 h2x => if kv1 = 2 then some ((1 : Int32), h2x) else none) fun v1 h2 =>
  (wJ h2 a1 (0 : Int32) (v1).toInt64).bind fun h3 =>
  some (((0 : Int32), h3))
set_option maxHeartbeats 2000000 in
set_option maxRecDepth 20000 in
theorem M_L_undo {g : GT} {a0 : Nat} {a1 : Nat} {h : Hp} {r : Int32} {h2 : Hp} (hf : f_L_undo a0 a1 h = some (r, h2)) : CMW g yL_undo cL_undo 3 [(0, 8, 11, 25)] 12 [.ref a0, .ref a1] h r h2 := by
  refine CMW_of rfl rfl (fun _ => Nat.le_of_ble_eq_true rfl) (fun Γ C hn0 htab => ?_)
  have C : Cx g Γ cL_undo RL "undo" 3 (some .int) 12 1 6 := C
  generalize hQ : Qe g Γ (.inr (some (.int r))) h2 1 6 = Q
  show U g Γ 3 Q 0 0 0 [(0, .ref a0), (1, .ref a1)] [] h
  unfold f_L_undo at hf
  refine U_aload_n (n := 1) 1 C dL_undo_0 rfl rfl rfl ?_
  refine U_iconst (n := 2) (0 : Int32) C dL_undo_1 kiconst_0 rfl ?_
  refine U_aload_n (n := 3) 0 C dL_undo_2 rfl rfl rfl ?_
  rcases bsomeTW hf with ⟨kv1, h2x, ev1, hf⟩ | ⟨v1, h2, ev1, hf⟩
  · skip
    by_cases c : kv1 = 2
    · replace hf := (if_pos c).symm.trans hf
      subst c
      obtain ⟨hr1, hr2⟩ := Prod.mk.inj (Option.some.inj hf)
      subst hr1; subst hr2
      subst hQ
      exact U_xcatch 3 2 (av := []) [] ⟨0, 8, 11, 25⟩ [] C dL_undo_3 ml_RL_83 mw_X3_undo yn_X3_undo rfl (by decide) (rc_X3_undo ev1) (M_X3_undo ev1) (Nat.le_of_ble_eq_true rfl) (Nat.le_of_ble_eq_true rfl) htab (fun _ h => absurd h List.not_mem_nil) (by decide) (by decide) cl_RL_25 cst_2 (H_n C dL_undo_11 dL_undo_12 dL_undo_13 rfl rfl (by decide) kiconst_1)
    replace hf := (if_neg c).symm.trans hf
    cases hf
  refine cv_RL_83 (n := 6) C dL_undo_3 (av := []) rfl (rc_X3_undo ev1) (M_X3_undo ev1) (Nat.le_of_ble_eq_true rfl) (Nat.zero_le _) (Nat.zero_le _) (Nat.le_of_ble_eq_true rfl) rfl ?_
  refine U_i2l (n := 7) C dL_undo_6 rfl ?_
  refine U_last (n := 8) C dL_undo_7 hf rfl (fun h3 hf => ?_)
  refine U_goto (n := 0) (tgt := 14) C dL_undo_8 (by decide) ?_
  refine U_iconst (n := 15) (0 : Int32) C dL_undo_14 kiconst_0 rfl ?_
  obtain ⟨hr1, hr2⟩ := Prod.mk.inj (Option.some.inj hf)
  subst hr1; subst hr2
  subst hQ
  exact U_iret C dL_undo_15 (Nat.zero_le _) (Nat.zero_le _)
