section News
variable {g : GT} {Γ : CT} {cc : ByteArray} {own nm : String} {nL : Nat} {rt : Option FieldType} {lvl mc ms mc2 ms2 : Nat} {Q : State → Prop} {ce sl pc n : Nat} {lv : List (Nat × Value)} {st : List Value} {h : Hp} {β : Type} {X : β}
theorem Inv.push {ad : Nat → Nat} {H : Heap} {locs : List Loc} (I : Inv g Γ ad h H locs) {c : va_E} {q : Nat} {H1 : Heap} {locs1 : List Loc} (hc : ∀ ad2 : Nat → Nat, eE g ad2 c = eE g ad c) (hw : wE h.length c) (hP : va_P g.D vwCl (eW g ad h ++ [(q, eE g ad c)]) H1) (hD : va_D Γ.A (eW g ad h ++ [(q, eE g ad c)])) (hS : va_S Γ.A Γ.s.heap H1 locs1) : Inv g Γ (fun i => if i = h.length then q else ad i) (h ++ [c]) H1 locs1 := by
  rw [← eW_push g I.2.2.2.1 q hc] at hP hD
  refine ⟨hP, hD, hS, wH_push I.2.2.2.1 hw, by rw [List.length_append]; exact Nat.le_trans I.2.2.2.2.1 (Nat.le_add_right _ _), fun i hi => ?_⟩
  exact (if_neg (Nat.ne_of_lt (Nat.lt_of_lt_of_le hi I.2.2.2.2.1))).trans (I.2.2.2.2.2 i hi)
theorem push_ag {ad : Nat → Nat} {q : Nat} : ∀ i, i < h.length → (fun i => if i = h.length then q else ad i) i = ad i := fun i hi => if_neg (Nat.ne_of_lt hi)
theorem U_push {ad : Nat → Nat} {H : Heap} {locs : List Loc} {ls : Array Slot} (I : Inv g Γ ad h H locs) (hL : wL h.length lv) (hS : wS h.length st) (hls : lv_has ls nL (lv.map fun q => (q.1, eV g ad q.2))) {c : va_E} {q : Nat} {H1 : Heap} {locs1 : List Loc} (hc : ∀ ad2 : Nat → Nat, eE g ad2 c = eE g ad c) (hw : wE h.length c) (hP : va_P g.D vwCl (eW g ad h ++ [(q, eE g ad c)]) H1) (hD : va_D Γ.A (eW g ad h ++ [(q, eE g ad c)])) (hS1 : va_S Γ.A Γ.s.heap H1 locs1)
    (k : U g Γ nL Q ce sl n lv (.ref h.length :: st) (h ++ [c])) : W Γ.p Γ.l Γ.e Γ.R Γ.s Γ.m Γ.args Γ.below Γ.meth Γ.c H1 locs1 ce sl Q (F0 Γ.m n ls (.ref q :: st.map (eV g ad))) := by
  have hle : h.length ≤ (h ++ [c]).length := by simp
  have k2 := k _ H1 locs1 ls (Inv.push I hc hw hP hD hS1) (fun q hq => wV_mono hle (hL q hq)) (wS_cons (by show h.length < _; simp) (fun v hv => wV_mono hle (hS v hv))) (by rw [lv_mapc g push_ag hL]; exact hls)
  rw [List.map_cons, st_mapc g push_ag hS] at k2
  have e : eV g (fun i => if i = h.length then q else ad i) (.ref h.length) = .ref q := by
    show Value.ref (if h.length = h.length then q else ad h.length) = .ref q
    rw [if_pos rfl]
  rw [e] at k2
  exact k2
def noA (v : Value) : Bool := match v with
  | .int _ => true
  | .long _ => true
  | .null => true
  | _ => false
theorem eV_noR (ad : Nat → Nat) {v : Value} (h : noA v = true) : eV g ad v = v := by cases v <;> first | rfl | cases h
theorem eE_noR (ad : Nat → Nat) {ci : Nat} {fs : List Value} (h : fs.all noA = true) : eE g ad (.inr (ci, fs)) = .inr (ci, fs) := by
  have e : fs.map (eV g ad) = fs := by
    rw [List.all_eq_true] at h
    conv => rhs; rw [← List.map_id fs]
    exact List.map_congr_left fun v hv => eV_noR ad (h v hv)
  show Sum.inr (ci, fs.map (eV g ad)) = _
  rw [e]
theorem U_new (ci : Nat) {K : String} {T : u_T} {N i : Nat} {ty : Nat → FieldType} {fs : List Value} (C : Cx g Γ cc own nm nL rt lvl mc ms) (d : decode cc pc = .ok (.new i, 3)) (hcl : vwCl[ci]? = some (K, T, N)) (hin : ∀ w ∈ u_ws K T N, w ∈ BW) (hty : ∀ k, k < N → parseFieldDescriptor (T k).2.2.1 = some (ty k)) (hlk : Cond.classLink own i K ∈ BW) (hins : Cond.instantiable K N ∈ BW) (hini : Cond.initialized K ∈ BW) (hfs : ∀ j, j < N → defaultValue (ty j) = vp_V fs j) (hno : fs.all noA = true) (hc : ce + 1 ≤ mc) (hs : sl + N ≤ ms) (hn : pc + 3 = n) (k : U g Γ nL Q (ce + 1) (sl + N) n lv (.ref h.length :: st) (h ++ [.inr (ci, fs)])) : U g Γ nL Q ce sl pc lv st h := by
  subst hn
  intro ad H locs ls I hL hS hls
  refine va_new C.x C.b C.w hin ty hty C.o (C.w _ hlk) (C.w _ hins) (C.w _ hini) C.K I.1 I.2.1 I.2.2.1 C.fr hcl hfs (C.rm hc hs).1 (C.rm hc hs).2 d (fun q H1 hP hD hS1 => ?_)
  rw [← eE_noR (g := g) ad hno] at hP hD
  refine U_push I hL hS hls (fun ad2 => by rw [eE_noR ad2 hno, eE_noR ad hno]) ?_ hP hD hS1 k
  intro v hv
  have := List.all_eq_true.mp hno v hv
  cases v <;> first | trivial | cases this
theorem U_newI {x : Int32} {N : Nat} (C : Cx g Γ cc own nm nL rt lvl mc ms) (d : decode cc pc = .ok (.newarray .int, 2)) (hx : ¬ x < 0) (hN : x.toNatClampNeg = N) (hb : N * 4 ≤ 536870912) (hc : ce + 1 ≤ mc) (hs : sl + N ≤ ms) (hn : pc + 2 = n) (k : U g Γ nL Q (ce + 1) (sl + N) n lv (.ref h.length :: st) (h ++ [.inl (0, (N, .inl fun _ => 0))])) : U g Γ nL Q ce sl pc lv (.int x :: st) h := by
  subst hn
  intro ad H locs ls I hL hS hls
  refine va_newa (atype := .int) C.x C.b (C.w _ ac_int) rfl C.K I.1 I.2.1 I.2.2.1 C.fr (a0 := (N, .inl fun _ => 0)) (fun _ => rfl) hx hN hb (C.rm hc hs).1 (C.rm hc hs).2 d (fun q cA H1 hK2 hP hD hS1 => ?_)
  have e1 := (hK2.2 3 (cA, .int) rfl).2
  have e2 := (C.K.2 0 (g.cy 0, .int) rfl).2
  have ec : cA = g.cy 0 := Option.some.inj (e1.symm.trans e2)
  subst ec
  exact U_push (c := .inl (0, (N, .inl fun _ => 0))) I hL (wS_tl hS) hls (fun _ => rfl) trivial hP hD hS1 k
theorem U_newJ {x : Int32} {N : Nat} (C : Cx g Γ cc own nm nL rt lvl mc ms) (d : decode cc pc = .ok (.newarray .long, 2)) (hx : ¬ x < 0) (hN : x.toNatClampNeg = N) (hb : N * 8 ≤ 536870912) (hc : ce + 1 ≤ mc) (hs : sl + N ≤ ms) (hn : pc + 2 = n) (k : U g Γ nL Q (ce + 1) (sl + N) n lv (.ref h.length :: st) (h ++ [.inl (1, (N, .inr (.inl fun _ => 0)))])) : U g Γ nL Q ce sl pc lv (.int x :: st) h := by
  subst hn
  intro ad H locs ls I hL hS hls
  refine va_newa (atype := .long) C.x C.b (C.w _ ac_long) rfl C.K I.1 I.2.1 I.2.2.1 C.fr (a0 := (N, .inr (.inl fun _ => 0))) (fun _ => rfl) hx hN hb (C.rm hc hs).1 (C.rm hc hs).2 d (fun q cA H1 hK2 hP hD hS1 => ?_)
  have e1 := (hK2.2 3 (cA, .long) rfl).2
  have e2 := (C.K.2 1 (g.cy 1, .long) rfl).2
  have ec : cA = g.cy 1 := Option.some.inj (e1.symm.trans e2)
  subst ec
  exact U_push (c := .inl (1, (N, .inr (.inl fun _ => 0)))) I hL (wS_tl hS) hls (fun _ => rfl) trivial hP hD hS1 k
theorem U_newQ {x : Int32} {N i : Nat} (C : Cx g Γ cc own nm nL rt lvl mc ms) (d : decode cc pc = .ok (.anewarray i, 3)) (hlk : Cond.classLink own i RX2 ∈ BW) (hx : ¬ x < 0) (hN : x.toNatClampNeg = N) (hb : N * 4 ≤ 536870912) (hc : ce + 1 ≤ mc) (hs : sl + N ≤ ms) (hn : pc + 3 = n) (k : U g Γ nL Q (ce + 1) (sl + N) n lv (.ref h.length :: st) (h ++ [.inl (2, (N, .inr (.inr (.inr (.inr fun _ => none)))))])) : U g Γ nL Q ce sl pc lv (.int x :: st) h := by
  subst hn
  intro ad H locs ls I hL hS hls
  refine va_newq C.x C.b C.o (C.w _ hlk) C.ev.2.2.2.2.1 C.K I.1 I.2.1 I.2.2.1 C.fr hx hN hb (C.rm hc hs).1 (C.rm hc hs).2 d (fun q cA H1 hK2 hP hD hS1 => ?_)
  obtain ⟨_, _, _, _, _, e1⟩ := (hK2.2 3 (cA, .object RX2) rfl).2
  obtain ⟨_, _, _, _, _, e2⟩ := (C.K.2 2 (g.cy 2, .object RX2) rfl).2
  have ec : cA = g.cy 2 := Option.some.inj (e1.symm.trans e2)
  subst ec
  exact U_push (c := .inl (2, (N, .inr (.inr (.inr (.inr fun _ => none)))))) I hL (wS_tl hS) hls (fun _ => rfl) (fun i a e => by cases e) hP hD hS1 k
theorem U_ldcS {i j : Nat} {tx : String} {x : UInt32} (C : Cx g Γ cc RX1 nm nL rt lvl mc ms) (d : decode cc pc = .ok (.ldc i, 2)) (hq : (i, tx, j) ∈ SK) (hx : x.toNat = j) (hj : j < 1000) (hn : pc + 2 = n) (k : U g Γ nL Q ce sl n lv (.float x :: st) h) : U g Γ nL Q ce sl pc lv st h := by
  subst hn; subst hx
  intro ad H locs ls I hL hS hls
  have k2 := k ad H locs ls I hL (wS_cons trivial hS) hls
  have e : eV g ad (.float x) = .ref (g.aK x.toNat) := congrArg Value.ref (if_pos hj)
  rw [List.map_cons, e] at k2
  exact va_ldcS C.x C.b C.o (C.ev.2.2.2.1 _ hq) d k2
theorem i32_ne {x y : Int32} (h : ¬ x = y) : ¬ x.toInt = y.toInt := fun e => h (Int32.toInt_inj.mp e)
theorem U_tblIn {x : Int32} {dflt lo hi off : Int} {offs : Array Int} {len tgt : Nat} (C : Cx g Γ cc own nm nL rt lvl mc ms) (d : decode cc pc = .ok (.tableswitch dflt lo hi offs, len)) (h1 : ¬ x.toInt < lo) (h2 : ¬ hi < x.toInt) (ho : offs[(x.toInt - lo).toNat]? = some off) (ht : (pc : Int) + off = (tgt : Int)) (k : U g Γ nL Q ce sl tgt lv st h) : U g Γ nL Q ce sl pc lv (.int x :: st) h := fun ad H locs ls I hL hS hls => lv_tableIn C.x C.b d h1 h2 ho ht (k ad H locs ls I hL (wS_tl hS) hls)
theorem U_tblOut {x : Int32} {dflt lo hi : Int} {offs : Array Int} {len tgt : Nat} (C : Cx g Γ cc own nm nL rt lvl mc ms) (d : decode cc pc = .ok (.tableswitch dflt lo hi offs, len)) (h1 : x.toInt < lo ∨ hi < x.toInt) (ht : (pc : Int) + dflt = (tgt : Int)) (k : U g Γ nL Q ce sl tgt lv st h) : U g Γ nL Q ce sl pc lv (.int x :: st) h := fun ad H locs ls I hL hS hls => lv_tableOut C.x C.b d h1 ht (k ad H locs ls I hL (wS_tl hS) hls)
def cpI (h : Hp) (a0 : Nat) (sp : Int32) (a : Nat) (dp m : Int32) : Option Hp := match h[a0]?, h[a]? with
  | some (.inl (t0, (n0, .inl f))), some (.inl (t1, (n1, .inl f1))) => if (t0 = 0 ∧ t1 = 0) ∧ ¬ sp < 0 ∧ ¬ dp < 0 ∧ ¬ m < 0 ∧ sp.toNatClampNeg + m.toNatClampNeg ≤ n0 ∧ dp.toNatClampNeg + m.toNatClampNeg ≤ n1 then some (h.set a (.inl (t1, (n1, .inl (va_cpy f f1 sp.toNatClampNeg dp.toNatClampNeg m.toNatClampNeg))))) else none
  | _, _ => none
def cpJ (h : Hp) (a0 : Nat) (sp : Int32) (a : Nat) (dp m : Int32) : Option Hp := match h[a0]?, h[a]? with
  | some (.inl (t0, (n0, .inr (.inl f)))), some (.inl (t1, (n1, .inr (.inl f1)))) => if (t0 = 1 ∧ t1 = 1) ∧ ¬ sp < 0 ∧ ¬ dp < 0 ∧ ¬ m < 0 ∧ sp.toNatClampNeg + m.toNatClampNeg ≤ n0 ∧ dp.toNatClampNeg + m.toNatClampNeg ≤ n1 then some (h.set a (.inl (t1, (n1, .inr (.inl (va_cpy f f1 sp.toNatClampNeg dp.toNatClampNeg m.toNatClampNeg)))))) else none
  | _, _ => none
theorem sys_loc (C : Cx g Γ cc own nm nL rt lvl mc ms) (hst : (st.map fun v => v.category).sum ≤ 8) (ad : Nat → Nat) : 1 ≤ Γ.R.frames ∧ ((st.map (eV g ad)).map fun v => v.category).sum + (nativeFrameWords "java/lang/System" "arraycopy" 5 + 11) ≤ Γ.R.locals := by
  have e : ((st.map (eV g ad)).map fun v => v.category) = st.map fun v => v.category := by
    rw [List.map_map]; exact congrArg (fun f => st.map f) (funext fun v => eV_cat g ad v)
  rw [e]
  have hw : nativeFrameWords "java/lang/System" "arraycopy" 5 ≤ 100 := by decide
  obtain ⟨r1, -, -, r4⟩ := C.R
  exact ⟨by omega, by omega⟩
theorem U_copyI {a0 a i : Nat} {sp dp m : Int32} {F : Hp → Option β} (C : Cx g Γ cc own nm nL rt lvl mc ms) (d : decode cc pc = .ok (.invokestatic i, 3)) (hl : Cond.methodLink own i arraycopyName ∈ BW) (hna : Cond.native arraycopyName ∈ BW) (hsc : Cond.static arraycopyName ∈ BW) (hini : Cond.initialized "java/lang/System" ∈ BW) (hst : (st.map fun v => v.category).sum ≤ 8) (hf : (cpI h a0 sp a dp m).bind F = some X) (hn : pc + 3 = n) (kk : ∀ h1, F h1 = some X → U g Γ nL Q ce sl n lv st h1) : U g Γ nL Q ce sl pc lv (.int m :: .int dp :: .ref a :: .int sp :: .ref a0 :: st) h := by
  subst hn
  obtain ⟨h1, e, hF⟩ := bsome hf
  unfold cpI at e
  split at e
  · rename_i t0 n0 f t1 n1 f1 e1 e2
    split at e
    · rename_i ec
      obtain ⟨⟨rfl, rfl⟩, q1, q2, q3, q4, q5⟩ := ec
      cases e
      intro ad H locs ls I hL hS hls
      refine va_copyi C.x C.b (by rw [C.ml]; exact hls.1.symm) C.o (C.w _ hl) (C.w _ hna) (C.w _ hsc) (C.w _ hini) C.K I.1 I.2.1 I.2.2.1 a0 a 0 0 (Inv.get I e1) (Inv.get I e2) rfl rfl rfl q1 q2 q3 q4 q5 (fun _ _ => rfl) (sys_loc C hst ad).1 (sys_loc C hst ad).2 d (fun H1 locs1 hP1 hD1 hS1 => ?_)
      refine kk _ hF ad H1 locs1 ls (Inv.set I trivial hP1 hD1 hS1) ?_ ?_ hls
      · rw [List.length_set]; exact hL
      · rw [List.length_set]; exact wS_tl (wS_tl (wS_tl (wS_tl (wS_tl hS))))
    · cases e
  · cases e
theorem U_copyJ {a0 a i : Nat} {sp dp m : Int32} {F : Hp → Option β} (C : Cx g Γ cc own nm nL rt lvl mc ms) (d : decode cc pc = .ok (.invokestatic i, 3)) (hl : Cond.methodLink own i arraycopyName ∈ BW) (hna : Cond.native arraycopyName ∈ BW) (hsc : Cond.static arraycopyName ∈ BW) (hini : Cond.initialized "java/lang/System" ∈ BW) (hst : (st.map fun v => v.category).sum ≤ 8) (hf : (cpJ h a0 sp a dp m).bind F = some X) (hn : pc + 3 = n) (kk : ∀ h1, F h1 = some X → U g Γ nL Q ce sl n lv st h1) : U g Γ nL Q ce sl pc lv (.int m :: .int dp :: .ref a :: .int sp :: .ref a0 :: st) h := by
  subst hn
  obtain ⟨h1, e, hF⟩ := bsome hf
  unfold cpJ at e
  split at e
  · rename_i t0 n0 f t1 n1 f1 e1 e2
    split at e
    · rename_i ec
      obtain ⟨⟨rfl, rfl⟩, q1, q2, q3, q4, q5⟩ := ec
      cases e
      intro ad H locs ls I hL hS hls
      refine va_copyl C.x C.b (by rw [C.ml]; exact hls.1.symm) C.o (C.w _ hl) (C.w _ hna) (C.w _ hsc) (C.w _ hini) C.K I.1 I.2.1 I.2.2.1 a0 a 1 1 (Inv.get I e1) (Inv.get I e2) rfl rfl rfl q1 q2 q3 q4 q5 (fun _ _ => rfl) (sys_loc C hst ad).1 (sys_loc C hst ad).2 d (fun H1 locs1 hP1 hD1 hS1 => ?_)
      refine kk _ hF ad H1 locs1 ls (Inv.set I trivial hP1 hD1 hS1) ?_ ?_ hls
      · rw [List.length_set]; exact hL
      · rw [List.length_set]; exact wS_tl (wS_tl (wS_tl (wS_tl (wS_tl hS))))
    · cases e
  · cases e
def aN (h : Hp) (a : Nat) : Option Int32 := match h[a]? with
  | some (.inl (t, (n, .inl _))) => if t = 0 then some (Int32.ofNat n) else none
  | _ => none
theorem U_alen {a : Nat} {F : Int32 → Option β} (C : Cx g Γ cc own nm nL rt lvl mc ms) (d : decode cc pc = .ok (.arraylength, 1)) (hf : (aN h a).bind F = some X) (hn : pc + 1 = n) (kk : ∀ v, F v = some X → U g Γ nL Q ce sl n lv (.int v :: st) h) : U g Γ nL Q ce sl pc lv (.ref a :: st) h := by
  subst hn
  obtain ⟨v, e, hF⟩ := bsome hf
  unfold aN at e
  split at e
  · rename_i t m f e1
    split at e
    · rename_i et
      subst et
      cases e
      intro ad H locs ls I hL hS hls
      exact va_alen C.x C.b C.K I.1 a 0 (Inv.get I e1) rfl rfl d (kk _ hF ad H locs ls I hL (wS_int (wS_tl hS)) hls)
    · cases e
  · cases e
/-! throws -/
theorem Inv.xc {ad : Nat → Nat} {H : Heap} {locs : List Loc} (I : Inv g Γ ad h H locs) {t : State} (hz : H.size ≤ t.heap.size) (hq : ∀ q : Nat, q < H.size → t.heap[q]? = H[q]?) : (∃ ad2, WrC g Γ.n0 Γ.ad0 h Γ.A ad2 t) ∧ va_F Γ.A Γ.s t := by
  refine ⟨⟨ad, I.2.2.2.2.2, va_P.kept I.1 (fun k q hk => hq _ (I.1 k q hk).lt), I.2.1, I.2.2.2.1, I.2.2.2.2.1⟩, Nat.le_trans I.2.2.1.1 hz, fun q h1 h2 => ?_⟩
  rw [hq q (Nat.lt_of_lt_of_le h1 I.2.2.1.1)]
  exact I.2.2.1.2.1 q h1 h2
theorem U_throw (k : Nat) {ik is ic : Nat} {tx cls : String} (C : Cx g Γ cc own nm nL rt lvl mc ms) (ho : own ≠ RL) (hE : exN k = cls) (hcls : Bundle.fit cls = true) (hk : Cond.classLink own ik cls ∈ BW) (hini : Cond.initialized cls ∈ BW) (hsr : (own, is, tx) ∈ SR) (hat : ∀ w ∈ vx_atS own ic cls ["java/lang/RuntimeException", "java/lang/Exception"], w ∈ BW ∨ w ∈ NB) (hgood : ∀ w ∈ Cond.classLink own ik cls :: Cond.initialized cls :: vx_atS own ic cls ["java/lang/RuntimeException", "java/lang/Exception"], vx_ot w = true)
    (d0 : decode cc pc = .ok (.new ik, 3)) (d3 : decode cc (pc + 3) = .ok (.dup, 1)) (d4 : decode cc (pc + 4) = .ok (.ldc is, 2)) (d6 : decode cc (pc + 6) = .ok (.invokespecial ic, 3)) (d9 : decode cc (pc + 9) = .ok (.athrow, 1)) (hst : (st.map fun v => v.category).sum ≤ 8) (hc : ce + 1 ≤ mc2 + 1) (hs : sl + 6 ≤ ms2 + 6) (hmc : mc2 + 1 = mc) (hms : ms2 + 6 = ms) : U g Γ nL (Qe g Γ (.inl k) h mc2 ms2) ce sl pc lv st h := by
  subst hmc; subst hms
  intro ad H locs ls I hL hS hls
  obtain ⟨sa, hsa⟩ := C.ev.2.2.1 _ hsr
  have e : ((st.map (eV g ad)).map fun v => v.category) = st.map fun v => v.category := by
    rw [List.map_map]; exact congrArg (fun f => st.map f) (funext fun v => eV_cat g ad v)
  refine vx_throwS (A := Γ.A) (names := ["java/lang/RuntimeException", "java/lang/Exception"]) C.x C.b C.st C.o hcls (by decide +kernel) (C.w _ hk) (C.w _ hini) hsa (fun w hw => (hat w hw).elim (C.w w) (C.nbw)) hgood C.ev.2.2.2.2.2.1 C.ev.2.2.2.2.2.2.1 I.2.2.1 (by rw [C.ml]; exact hls.1) d0 d3 d4 d6 d9 (fun x hx => (C.nh ho x hx).elim) ?_ ?_ ?_ ?_ C.lk (fun t hvm hz hq => ⟨hE.symm, Inv.xc I hz hq⟩) I.2.2.1.2.2 hc hs
  · have r1 := C.R.1
    show 2 + 3 < Γ.R.frames; omega
  · have r4 := C.R.2.2.2
    rw [e]; show _ + (13 * (2 + 1) + 43) ≤ Γ.R.locals; omega
  · exact Nat.le_trans hc C.R.2.1
  · exact Nat.le_trans hs C.R.2.2.1
theorem U_throwW (k : Nat) {ik is ic : Nat} {tx cls : String} (C : Cx g Γ cc own nm nL rt lvl mc ms) (ho : own ≠ RL) (hE : exN k = cls) (hcls : Bundle.fit cls = true) (hk : Cond.classLink own ik cls ∈ BW) (hini : Cond.initialized cls ∈ BW) (hsr : (own, is, tx) ∈ SR) (hat : ∀ w ∈ vx_atS own ic cls ["java/lang/RuntimeException", "java/lang/Exception"], w ∈ BW ∨ w ∈ NB) (hgood : ∀ w ∈ Cond.classLink own ik cls :: Cond.initialized cls :: vx_atS own ic cls ["java/lang/RuntimeException", "java/lang/Exception"], vx_ot w = true)
    (d0 : decode cc pc = .ok (.new ik, 3)) (d3 : decode cc (pc + 3) = .ok (.dup, 1)) (d4 : decode cc (pc + 4) = .ok (.ldc_w is, 3)) (d6 : decode cc (pc + 7) = .ok (.invokespecial ic, 3)) (d9 : decode cc (pc + 10) = .ok (.athrow, 1)) (hst : (st.map fun v => v.category).sum ≤ 8) (hc : ce + 1 ≤ mc2 + 1) (hs : sl + 6 ≤ ms2 + 6) (hmc : mc2 + 1 = mc) (hms : ms2 + 6 = ms) : U g Γ nL (Qe g Γ (.inl k) h mc2 ms2) ce sl pc lv st h := by
  subst hmc; subst hms
  intro ad H locs ls I hL hS hls
  obtain ⟨sa, hsa⟩ := C.ev.2.2.1 _ hsr
  have e : ((st.map (eV g ad)).map fun v => v.category) = st.map fun v => v.category := by
    rw [List.map_map]; exact congrArg (fun f => st.map f) (funext fun v => eV_cat g ad v)
  refine vx_throwSW (A := Γ.A) (names := ["java/lang/RuntimeException", "java/lang/Exception"]) C.x C.b C.st C.o hcls (by decide +kernel) (C.w _ hk) (C.w _ hini) hsa (fun w hw => (hat w hw).elim (C.w w) (C.nbw)) hgood C.ev.2.2.2.2.2.1 C.ev.2.2.2.2.2.2.1 I.2.2.1 (by rw [C.ml]; exact hls.1) d0 d3 d4 d6 d9 (fun x hx => (C.nh ho x hx).elim) ?_ ?_ ?_ ?_ C.lk (fun t hvm hz hq => ⟨hE.symm, Inv.xc I hz hq⟩) I.2.2.1.2.2 hc hs
  · have r1 := C.R.1
    show 2 + 3 < Γ.R.frames; omega
  · have r4 := C.R.2.2.2
    rw [e]; show _ + (13 * (2 + 1) + 43) ≤ Γ.R.locals; omega
  · exact Nat.le_trans hc C.R.2.1
  · exact Nat.le_trans hs C.R.2.2.1
theorem U_xrun {stk : List Value} {h1 : Hp} {k : Nat} {a : Array Value} {Qc : Array Value → State → Outcome → State → Prop} (C : Cx g Γ cc own nm nL rt lvl mc ms) (ho : own ≠ RL) (hQ : ∀ x y z w, ¬ Qc x y z w)
    (hr : ∀ (ad : Nat → Nat) (H : Heap) (locs : List Loc) (ls : Array Slot), Inv g Γ ad h H locs → wS h.length stk → ls.size = nL → vx_Run Γ.p Γ.l Γ.e Γ.R Γ.s Γ.m Γ.args Γ.below Γ.meth Γ.c H locs ce sl 1 6 (F0 Γ.m pc ls (stk.map (eV g ad))) (st.map (eV g ad)) (Qc a) (XCC g h.length ad h1 k (va_A (eW g ad h) H.size)) (va_A (eW g ad h) H.size))
    (hc : ce + 1 ≤ mc2 + 1) (hs : sl + 6 ≤ ms2 + 6) : U g Γ nL (Qe g Γ (.inl k) h1 mc2 ms2) ce sl pc lv stk h := by
  intro ad H locs ls I hL hS hls T hT X
  rcases hr ad H locs ls I hS hls.1 T hT X with ⟨v, st₀, t, T', L, h0, X', hLc, e1, e2, hq, go⟩ | ⟨q, st₀, t, T', L, E, ce9, h0, X', hLc, e1, e2, ⟨hE, ⟨ad2, w⟩, hF⟩, hce, hcv, hcl, go⟩
  · exact absurd hq (hQ _ _ _ _)
  · have I2 := Inv.post C I h0 w hF hLc
    rw [← e1] at I2
    have K := vx_out (p := Γ.p) (l := Γ.l) (e := Γ.e) (R := Γ.R) (s := Γ.s) (m := Γ.m) (args := Γ.args) (below := Γ.below) (meth := Γ.meth) (c := Γ.c) (H := T'.heap) (locs := locs ++ L) (cells := ce + 1) (slots := sl + 6) (Qc := fun _ _ _ _ => False) (XC := XCC g Γ.n0 Γ.ad0 h1 k Γ.A) (free := Γ.A) (pc := pc) (ls := ls) (rest := st.map (eV g ad)) (E := E) (ce := ce9) (q := q) (mc := mc2 + 1) (ms := ms2 + 6) (fun x hx => (C.nh ho x hx).elim) C.lk (by rw [e1]; exact hce) hcv hcl (fun t2 ht2 _ => ⟨hE, ⟨ad2, I2.wr ht2⟩, I2.2.2.1.F ht2⟩) I2.2.2.1.2.2 hc hs
    obtain ⟨t2, a1, b1⟩ := K T' rfl X'
    exact ⟨t2, go.trans a1, b1⟩
theorem U_xV (ci k : Nat) {T : u_T} {N : Nat} {y : MethodName} {cb : ByteArray} {maxL lvl2 i o : Nat} {rt2 : Option FieldType} {av : List Value} {h1 : Hp} (C : Cx g Γ cc own nm nL rt lvl mc ms) (ho : own ≠ RL) (d : decode cc pc = .ok (.invokevirtual i, 3)) (hl : Cond.methodLink own i y ∈ BW) (hm : MW y cb maxL rt2) (hy : YN y av.length) (hcl : vwCl[ci]? = some (y.cls, T, N)) (hmx : maxL ≤ 21) (hrc : rc ci h o = some ()) (hM : CM g y cb maxL rt2 lvl2 0 0 (.ref o :: av) h (.inl k) h1) (hlv : lvl2 < lvl) (hst : (st.map fun v => v.category).sum ≤ 8) (hc : ce + 1 ≤ mc2 + 1) (hs : sl + 6 ≤ ms2 + 6) (hmc : mc2 + 1 = mc) (hms : ms2 + 6 = ms) : U g Γ nL (Qe g Γ (.inl k) h1 mc2 ms2) ce sl pc lv (av.reverse ++ .ref o :: st) h := by
  obtain ⟨m1, m2, m3, m4⟩ := hm
  obtain ⟨fs, hfs⟩ := rc_spec hrc
  refine U_xrun (st := st) (a := ((Value.ref o :: av).map (eV g fun x => x)).toArray) (Qc := fun _ _ _ _ => False) C ho (fun _ _ _ _ h => h) (fun ad H locs ls I hS hz => ?_) hc hs
  have hwa : wS h.length (.ref o :: av) := fun v hv => hS v ((List.mem_cons.mp hv).elim (fun e => List.mem_append_right _ (by rw [e]; exact List.mem_cons_self)) (fun e => List.mem_append_left _ (List.mem_reverse.mpr e)))
  have hMet := hM Γ.l ad H.size C.st hwa
  exact vx_runV (C := y.cls) (As := av.map (eV g ad)) (rest := st.map (eV g ad)) (b := ad o) (Ts := BW) ⟨C.x, C.b, C.ml, C.o, C.w⟩ hMet
    (cwV av.length C.w (bw_in (bw_app (bw_4 hl m1 m2 m3) (bw_code2 m4))) rfl rfl rfl ⟨rfl, hy⟩ (C.fit hlv hmx))
    ⟨PreC.blind, va_recv C.K I.1 hcl (Inv.get I hfs), fun s2 hH hW => ⟨rfl, Inv.pre C I hH hW⟩⟩ rfl (by simp) hz (by simp [List.map_append, eV]) (lv_room (by simp only [List.map_map]; rw [show ((fun v : Value => v.category) ∘ eV g ad) = fun v => v.category from funext fun v => eV_cat g ad v]; exact hst)) d (C.rm (hmc ▸ hc) (hms ▸ hs))
theorem U_xS (k : Nat) {y : MethodName} {cb : ByteArray} {maxL lvl2 i : Nat} {rt2 : Option FieldType} {av : List Value} {h1 : Hp} (C : Cx g Γ cc own nm nL rt lvl mc ms) (ho : own ≠ RL) (d : decode cc pc = .ok (.invokestatic i, 3)) (hl : Cond.methodLink own i y ∈ BW) (hm : SW y cb maxL rt2) (hy : YN y av.length) (hmx : maxL ≤ 21) (hM : CM g y cb maxL rt2 lvl2 0 0 av h (.inl k) h1) (hlv : lvl2 < lvl) (hst : (st.map fun v => v.category).sum ≤ 8) (hc : ce + 1 ≤ mc2 + 1) (hs : sl + 6 ≤ ms2 + 6) (hmc : mc2 + 1 = mc) (hms : ms2 + 6 = ms) : U g Γ nL (Qe g Γ (.inl k) h1 mc2 ms2) ce sl pc lv (av.reverse ++ st) h := by
  obtain ⟨m1, m3, m4⟩ := hm
  refine U_xrun (st := st) (a := (av.map (eV g fun x => x)).toArray) (Qc := fun _ _ _ _ => False) C ho (fun _ _ _ _ h => h) (fun ad H locs ls I hS hz => ?_) hc hs
  have hwa : wS h.length av := fun v hv => hS v (List.mem_append_left _ (List.mem_reverse.mpr hv))
  have hMet := hM Γ.l ad H.size C.st hwa
  exact vx_runS (As := av.map (eV g ad)) (rest := st.map (eV g ad)) (Ts := BW) ⟨C.x, C.b, C.ml, C.o, C.w⟩ hMet
    (va_cwS av.length C.w (bw_in (bw_app (bw_3 hl m1 m3) (bw_code2 m4))) rfl rfl rfl hy (C.fit hlv hmx))
    ⟨PreC.blind, fun s2 hH hW => ⟨rfl, Inv.pre C I hH hW⟩⟩ rfl (by simp) hz (by simp [List.map_append]) (lv_room (by simp only [List.map_map]; rw [show ((fun v : Value => v.category) ∘ eV g ad) = fun v => v.category from funext fun v => eV_cat g ad v]; exact hst)) d (C.rm (hmc ▸ hc) (hms ▸ hs))
end News
