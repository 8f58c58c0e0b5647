/-! ends of a body, calls, throws, makings -/
section Ends2
variable {g : GT} {Γ : CT} {cc : ByteArray} {own nm : String} {nL : Nat} {rt : Option FieldType} {lvl mc ms mc2 ms2 : Nat} {Q : State → Prop} {ce sl pc n : Nat} {lv : List (Nat × Value)} {st : List Value} {h : Hp}
theorem Inv.wr {ad : Nat → Nat} {H : Heap} {locs : List Loc} (I : Inv g Γ ad h H locs) {t : State} (ht : t.heap = H) : WrC g Γ.n0 Γ.ad0 h Γ.A ad t := ⟨I.2.2.2.2.2, by rw [ht]; exact I.1, I.2.1, I.2.2.2.1, I.2.2.2.2.1⟩
theorem U_iret {x : Int32} (C : Cx g Γ cc own nm nL (some .int) lvl mc ms) (d : decode cc pc = .ok (.ireturn, 1)) (hc : ce ≤ mc2) (hs : sl ≤ ms2) : U g Γ nL (Qe g Γ (.inr (some (.int x))) h mc2 ms2) ce sl pc lv [.int x] h := by
  intro ad H locs ls I hL hS hls
  exact W.widen hc hs (W.iret C.x C.b C.rty (fun t ht _ => ⟨⟨ad, I.wr ht, rfl, fun v hv => by cases hv; trivial⟩, I.2.2.1.F ht⟩) I.2.2.1.2.2 d C.lk)
theorem U_zret {x : Int32} (C : Cx g Γ cc own nm nL (some .boolean) lvl mc ms) (d : decode cc pc = .ok (.ireturn, 1)) (hx : x = 0 ∨ x = 1) (hc : ce ≤ mc2) (hs : sl ≤ ms2) : U g Γ nL (Qe g Γ (.inr (some (.int x))) h mc2 ms2) ce sl pc lv [.int x] h := by
  intro ad H locs ls I hL hS hls
  refine W.widen hc hs (W.zret C.x C.b C.rty ?_ (fun t ht _ => ⟨⟨ad, I.wr ht, rfl, fun v hv => by cases hv; trivial⟩, I.2.2.1.F ht⟩) I.2.2.1.2.2 d C.lk)
  rcases hx with rfl | rfl <;> rfl
theorem U_lret {x : Int64} (C : Cx g Γ cc own nm nL (some .long) lvl mc ms) (d : decode cc pc = .ok (.lreturn, 1)) (hc : ce ≤ mc2) (hs : sl ≤ ms2) : U g Γ nL (Qe g Γ (.inr (some (.long x))) h mc2 ms2) ce sl pc lv [.long x] h := by
  intro ad H locs ls I hL hS hls
  exact W.widen hc hs (W.lret C.x C.b C.rty (fun t ht _ => ⟨⟨ad, I.wr ht, rfl, fun v hv => by cases hv; trivial⟩, I.2.2.1.F ht⟩) I.2.2.1.2.2 d C.lk)
theorem U_vret (C : Cx g Γ cc own nm nL none lvl mc ms) (d : decode cc pc = .ok (.return_, 1)) (hc : ce ≤ mc2) (hs : sl ≤ ms2) : U g Γ nL (Qe g Γ (.inr none) h mc2 ms2) ce sl pc lv [] h := by
  intro ad H locs ls I hL hS hls
  exact W.widen hc hs (W.vret C.x C.b C.rty (fun t ht _ => ⟨⟨ad, I.wr ht, rfl, fun v hv => by cases hv⟩, I.2.2.1.F ht⟩) I.2.2.1.2.2 d C.lk)
theorem U_aret {x : Value} {K : String} (C : Cx g Γ cc own nm nL (some (.object K)) lvl mc ms) (d : decode cc pc = .ok (.areturn, 1)) (hx : isR x = true) (hc : ce ≤ mc2) (hs : sl ≤ ms2) : U g Γ nL (Qe g Γ (.inr (some x)) h mc2 ms2) ce sl pc lv [x] h := by
  intro ad H locs ls I hL hS hls
  obtain ⟨a, ha⟩ := eV_ref g ad hx
  exact W.widen hc hs (W.aret C.x C.b C.rty (Or.inl ⟨K, rfl⟩) (Or.inr ⟨a, ha⟩) (fun t ht _ => ⟨⟨ad, I.wr ht, rfl, fun v hv => by cases hv; exact wS_hd hS⟩, I.2.2.1.F ht⟩) I.2.2.1.2.2 d C.lk)
/-- the words of a method that is called -/
def MW (y : MethodName) (cb : ByteArray) (maxL : Nat) (rt : Option FieldType) : Prop := Cond.instanceMethod y ∈ BW ∧ Cond.selects y.cls y y ∈ BW ∧ Cond.initialized y.cls ∈ BW ∧ Cond.code y cb maxL rt ∈ BW
def SW (y : MethodName) (cb : ByteArray) (maxL : Nat) (rt : Option FieldType) : Prop := Cond.static y ∈ BW ∧ Cond.initialized y.cls ∈ BW ∧ Cond.code y cb maxL rt ∈ BW
def IW (y : MethodName) (cb : ByteArray) (maxL : Nat) : Prop := Cond.instanceMethod y ∈ BW ∧ Cond.initialized y.cls ∈ BW ∧ Cond.code y cb maxL none ∈ BW ∧ y.name = "<init>"
def YN (y : MethodName) (k : Nat) : Prop := y.cls ≠ "java/lang/invoke/MethodHandle" ∧ y.cls ≠ "java/lang/invoke/VarHandle" ∧ (parseMethodDescriptor y.desc).map (fun d => d.parameters.length) = some k
theorem bw_code2 {y : MethodName} {cb : ByteArray} {maxL : Nat} {rt : Option FieldType} (h : Cond.code y cb maxL rt ∈ BW) : ∀ w ∈ (Cond.code y cb maxL rt :: BW), w ∈ BW := fun w hw => (List.mem_cons.mp hw).elim (fun e => e ▸ h) id
theorem bw_app {l ws : List Cond} (hl : ∀ w ∈ l, w ∈ BW) (hw : ∀ w ∈ ws, w ∈ BW) : ∀ w ∈ l ++ ws, w ∈ BW := fun w h => (List.mem_append.mp h).elim (hl w) (hw w)
theorem bw_2 {a b : Cond} (ha : a ∈ BW) (hb : b ∈ BW) : ∀ w ∈ [a, b], w ∈ BW := List.forall_mem_cons.mpr ⟨ha, List.forall_mem_cons.mpr ⟨hb, fun _ h => absurd h List.not_mem_nil⟩⟩
theorem bw_3 {a b c : Cond} (ha : a ∈ BW) (hb : b ∈ BW) (hc : c ∈ BW) : ∀ w ∈ [a, b, c], w ∈ BW := List.forall_mem_cons.mpr ⟨ha, bw_2 hb hc⟩
theorem bw_4 {a b c d : Cond} (ha : a ∈ BW) (hb : b ∈ BW) (hc : c ∈ BW) (hd : d ∈ BW) : ∀ w ∈ [a, b, c, d], w ∈ BW := List.forall_mem_cons.mpr ⟨ha, bw_3 hb hc hd⟩
theorem Cx.fit (C : Cx g Γ cc own nm nL rt lvl mc ms) {lvl2 maxL : Nat} (hlv : lvl2 < lvl) (hmx : maxL ≤ 21) : lvl2 + 12 + 1 ≤ Γ.R.frames ∧ 8 + (maxL + 11) + (40 * lvl2 + 200) ≤ Γ.R.locals := by
  obtain ⟨r1, -, -, r4⟩ := C.R
  exact ⟨by omega, by omega⟩
theorem Cx.rm (C : Cx g Γ cc own nm nL rt lvl mc ms) {a b : Nat} (h1 : a ≤ mc) (h2 : b ≤ ms) : a ≤ Γ.R.cells ∧ b ≤ Γ.R.slots := by
  exact ⟨Nat.le_trans h1 C.R.2.1, Nat.le_trans h2 C.R.2.2.1⟩
theorem Inv.A1 (C : Cx g Γ cc own nm nL rt lvl mc ms) {ad : Nat → Nat} {H : Heap} {locs : List Loc} (I : Inv g Γ ad h H locs) : ∀ q, va_A (eW g ad h) H.size q → Γ.A q := fun q hq => hq.elim (fun ⟨k, e, hk⟩ => I.2.1.2 k (q, e) hk) (fun hz => C.fr q (Nat.le_trans I.2.2.1.1 hz))
theorem Inv.pre (C : Cx g Γ cc own nm nL rt lvl mc ms) {ad : Nat → Nat} {H : Heap} {locs : List Loc} (I : Inv g Γ ad h H locs) {s2 : State} (hH : s2.heap = H) (hW : Γ.s.WarmedH s2.vm) : PreC g ad h H.size s2 := by
  refine ⟨by rw [hH], by rw [hH]; exact I.1, I.2.1.weaken (fun _ _ _ _ => trivial), I.2.2.2.1, ?_⟩
  have h1 : EvK g Γ.A Γ.s H := C.ev.kept (fun a ha hA => I.2.2.1.2.1 a ha hA)
  rw [hH]
  exact (h1.narrow (Inv.A1 C I)).warm hW
theorem Inv.post (C : Cx g Γ cc own nm nL rt lvl mc ms) {ad : Nat → Nat} {H : Heap} {locs : List Loc} (I : Inv g Γ ad h H locs) {h1 : Hp} {ad2 : Nat → Nat} {st0 t : State} {L : List Loc} (h0 : st0.heap = H) (w : WrC g h.length ad h1 (va_A (eW g ad h) H.size) ad2 t) (hF : va_F (va_A (eW g ad h) H.size) st0 t) (hL : ∀ q ∈ L, va_A (eW g ad h) H.size q.base) : Inv g Γ ad2 h1 t.heap (locs ++ L) := by
  obtain ⟨hg, hP, hD, hw, hle⟩ := w
  obtain ⟨hz, hk⟩ := hF
  rw [h0] at hz hk
  have hA := Inv.A1 C I
  refine ⟨hP, hD.weaken (fun _ _ _ q => hA _ q), ⟨Nat.le_trans I.2.2.1.1 hz, fun q h1 h2 => ?_, fun q hq => ?_⟩, hw, Nat.le_trans I.2.2.2.2.1 hle, fun i hi => ?_⟩
  · rw [hk q (Nat.lt_of_lt_of_le h1 I.2.2.1.1) (fun z => h2 (hA q z))]
    exact I.2.2.1.2.1 q h1 h2
  · rcases List.mem_append.mp hq with h | h
    · exact I.2.2.1.2.2 q h
    · exact hA _ (hL q h)
  · rw [hg i (Nat.lt_of_lt_of_le hi I.2.2.2.2.1)]
    exact I.2.2.2.2.2 i hi
theorem U_run {stk : List Value} {h1 : Hp} {r : Option Value} {a : Array Value} (C : Cx g Γ cc own nm nL rt lvl mc ms)
    (hr : ∀ (ad : Nat → Nat) (H : Heap) (locs : List Loc) (ls : Array Slot), Inv g Γ ad h H locs → wS h.length stk → ls.size = nL → va_Run Γ.p Γ.l Γ.e Γ.R Γ.s Γ.m Γ.args Γ.below Γ.meth Γ.c H locs ce sl mc2 ms2 (F0 Γ.m pc ls (stk.map (eV g ad))) (st.map (eV g ad)) (PostC g h.length ad h1 r (va_A (eW g ad h) H.size) (a)) (va_A (eW g ad h) H.size))
    (hst : ∀ m, wS m stk → wS m st) (hn : pc + 3 = n) (k : U g Γ nL Q (ce + mc2) (sl + ms2) n lv (r.toList ++ st) h1) : U g Γ nL Q ce sl pc lv stk h := by
  subst hn
  intro ad H locs ls I hL hS hls T hT X
  obtain ⟨v, st₀, t, T', L, h0, X', hLc, e1, e2, ⟨⟨ad2, w, hv, hwr⟩, hF⟩, go⟩ := hr ad H locs ls I hS hls.1 T hT X
  cases hv
  have I2 := Inv.post C I h0 w hF hLc
  rw [← e1] at I2
  have hL2 : wL h1.length lv := fun q hq => wV_mono w.2.2.2.2 (hL q hq)
  have hS2 : wS h1.length (r.toList ++ st) := fun x hx => (List.mem_append.mp hx).elim (fun h => hwr x (by cases r with | none => cases h | some y => rw [List.mem_singleton.mp h])) (fun h => wV_mono w.2.2.2.2 (hst _ hS x h))
  obtain ⟨t2, a1, b1⟩ := k ad2 T'.heap (locs ++ L) ls I2 hL2 hS2 (by rw [lv_mapc g w.1 hL]; exact hls) T' rfl X'
  refine ⟨t2, go t2 ?_, b1⟩
  rw [List.map_append, st_mapc g w.1 (hst _ hS)] at a1
  cases r <;> exact a1
theorem toA (g : GT) (ad : Nat → Nat) (o : Nat) (av : List Value) : (Value.ref (ad o) :: av.map (eV g ad)).toArray = ((Value.ref o :: av).map (eV g ad)).toArray := rfl
theorem U_callV (ci : Nat) {T : u_T} {N : Nat} {y : MethodName} {cb : ByteArray} {maxL lvl2 i o : Nat} {rt2 : Option FieldType} {av : List Value} {h1 : Hp} {r : Option Value} (C : Cx g Γ cc own nm nL rt lvl mc ms) (d : decode cc pc = .ok (.invokevirtual i, 3)) (hl : Cond.methodLink own i y ∈ BW) (hm : MW y cb maxL rt2) (hy : YN y av.length) (hcl : vwCl[ci]? = some (y.cls, T, N)) (hmx : maxL ≤ 21) (hrc : rc ci h o = some ()) (hM : CM g y cb maxL rt2 lvl2 mc2 ms2 (.ref o :: av) h (.inr r) h1) (hlv : lvl2 < lvl) (hc : ce + mc2 ≤ mc) (hs : sl + ms2 ≤ ms) (hst : (st.map fun v => v.category).sum ≤ 8) (hn : pc + 3 = n) (k : U g Γ nL Q (ce + mc2) (sl + ms2) n lv (r.toList ++ st) h1) : U g Γ nL Q ce sl pc lv (av.reverse ++ .ref o :: st) h := by
  obtain ⟨m1, m2, m3, m4⟩ := hm
  obtain ⟨fs, hfs⟩ := rc_spec hrc
  refine U_run (r := r) (a := ((Value.ref o :: av).map (eV g fun x => x)).toArray) C (fun ad H locs ls I hS hz => ?_) (fun m hw v hv => hw v (List.mem_append_right _ (List.mem_cons_of_mem _ hv))) hn k
  have hwa : wS h.length (.ref o :: av) := fun v hv => hS v ((List.mem_cons.mp hv).elim (fun e => List.mem_append_right _ (by rw [e]; exact List.mem_cons_self)) (fun e => List.mem_append_left _ (List.mem_reverse.mpr e)))
  have hMet := hM Γ.l ad H.size C.st hwa
  exact va_runV (C := y.cls) (As := av.map (eV g ad)) (rest := st.map (eV g ad)) (b := ad o) (Ts := BW) ⟨C.x, C.b, C.ml, C.o, C.w⟩ hMet
    (cwV av.length C.w (bw_in (bw_app (bw_4 hl m1 m2 m3) (bw_code2 m4))) rfl rfl rfl ⟨rfl, hy⟩ (C.fit hlv hmx))
    ⟨PreC.blind, va_recv C.K I.1 hcl (Inv.get I hfs), fun s2 hH hW => ⟨rfl, Inv.pre C I hH hW⟩⟩ rfl (by simp) hz (by simp [List.map_append, eV]) (lv_room (by simp only [List.map_map]; rw [show ((fun v : Value => v.category) ∘ eV g ad) = fun v => v.category from funext fun v => eV_cat g ad v]; exact hst)) d (C.rm hc hs)
theorem U_callVN (ci : Nat) {host : String} {T : u_T} {N : Nat} {y : MethodName} {cb : ByteArray} {maxL lvl2 i o : Nat} {rt2 : Option FieldType} {av : List Value} {h1 : Hp} {r : Option Value} (C : Cx g Γ cc own nm nL rt lvl mc ms) (d : decode cc pc = .ok (.invokevirtual i, 3)) (hl : Cond.methodLinkNest own i y host ∈ NB) (hm : MW y cb maxL rt2) (hy : YN y av.length) (hcl : vwCl[ci]? = some (y.cls, T, N)) (hmx : maxL ≤ 21) (hrc : rc ci h o = some ()) (hM : CM g y cb maxL rt2 lvl2 mc2 ms2 (.ref o :: av) h (.inr r) h1) (hlv : lvl2 < lvl) (hc : ce + mc2 ≤ mc) (hs : sl + ms2 ≤ ms) (hst : (st.map fun v => v.category).sum ≤ 8) (hn : pc + 3 = n) (k : U g Γ nL Q (ce + mc2) (sl + ms2) n lv (r.toList ++ st) h1) : U g Γ nL Q ce sl pc lv (av.reverse ++ .ref o :: st) h := by
  obtain ⟨m1, m2, m3, m4⟩ := hm
  obtain ⟨fs, hfs⟩ := rc_spec hrc
  refine U_run (r := r) (a := ((Value.ref o :: av).map (eV g fun x => x)).toArray) C (fun ad H locs ls I hS hz => ?_) (fun m hw v hv => hw v (List.mem_append_right _ (List.mem_cons_of_mem _ hv))) hn k
  have hwa : wS h.length (.ref o :: av) := fun v hv => hS v ((List.mem_cons.mp hv).elim (fun e => List.mem_append_right _ (by rw [e]; exact List.mem_cons_self)) (fun e => List.mem_append_left _ (List.mem_reverse.mpr e)))
  have hMet := hM Γ.l ad H.size C.st hwa
  exact va_runVN (C := y.cls) (As := av.map (eV g ad)) (rest := st.map (eV g ad)) (b := ad o) (Ts := BW) ⟨C.x, C.b, C.ml, C.o, C.w⟩ hMet
    ⟨va_cnB av.length C.w (bw_in (bw_code2 m4)) rfl rfl rfl (C.nb hl) (C.w _ m3) hy (C.fit hlv hmx), C.w _ m1, C.w _ m2⟩
    ⟨PreC.blind, va_recv C.K I.1 hcl (Inv.get I hfs), fun s2 hH hW => ⟨rfl, Inv.pre C I hH hW⟩⟩ rfl (by simp) hz (by simp [List.map_append, eV]) (lv_room (by simp only [List.map_map]; rw [show ((fun v : Value => v.category) ∘ eV g ad) = fun v => v.category from funext fun v => eV_cat g ad v]; exact hst)) d (C.rm hc hs)
theorem U_callS {y : MethodName} {cb : ByteArray} {maxL lvl2 i : Nat} {rt2 : Option FieldType} {av : List Value} {h1 : Hp} {r : Option Value} (C : Cx g Γ cc own nm nL rt lvl mc ms) (d : decode cc pc = .ok (.invokestatic i, 3)) (hl : Cond.methodLink own i y ∈ BW) (hm : SW y cb maxL rt2) (hy : YN y av.length) (hmx : maxL ≤ 21) (hM : CM g y cb maxL rt2 lvl2 mc2 ms2 av h (.inr r) h1) (hlv : lvl2 < lvl) (hc : ce + mc2 ≤ mc) (hs : sl + ms2 ≤ ms) (hst : (st.map fun v => v.category).sum ≤ 8) (hn : pc + 3 = n) (k : U g Γ nL Q (ce + mc2) (sl + ms2) n lv (r.toList ++ st) h1) : U g Γ nL Q ce sl pc lv (av.reverse ++ st) h := by
  obtain ⟨m1, m3, m4⟩ := hm
  refine U_run (r := r) (a := (av.map (eV g fun x => x)).toArray) C (fun ad H locs ls I hS hz => ?_) (fun m hw v hv => hw v (List.mem_append_right _ hv)) hn k
  have hwa : wS h.length av := fun v hv => hS v (List.mem_append_left _ (List.mem_reverse.mpr hv))
  have hMet := hM Γ.l ad H.size C.st hwa
  exact va_runS (As := av.map (eV g ad)) (rest := st.map (eV g ad)) (Ts := BW) ⟨C.x, C.b, C.ml, C.o, C.w⟩ hMet
    (va_cwS av.length C.w (bw_in (bw_app (bw_3 hl m1 m3) (bw_code2 m4))) rfl rfl rfl hy (C.fit hlv hmx))
    ⟨PreC.blind, fun s2 hH hW => ⟨rfl, Inv.pre C I hH hW⟩⟩ rfl (by simp) hz (by simp [List.map_append]) (lv_room (by simp only [List.map_map]; rw [show ((fun v : Value => v.category) ∘ eV g ad) = fun v => v.category from funext fun v => eV_cat g ad v]; exact hst)) d (C.rm hc hs)
theorem U_callSN {host : String} {y : MethodName} {cb : ByteArray} {maxL lvl2 i : Nat} {rt2 : Option FieldType} {av : List Value} {h1 : Hp} {r : Option Value} (C : Cx g Γ cc own nm nL rt lvl mc ms) (d : decode cc pc = .ok (.invokestatic i, 3)) (hl : Cond.methodLinkNest own i y host ∈ NB) (hm : SW y cb maxL rt2) (hy : YN y av.length) (hmx : maxL ≤ 21) (hM : CM g y cb maxL rt2 lvl2 mc2 ms2 av h (.inr r) h1) (hlv : lvl2 < lvl) (hc : ce + mc2 ≤ mc) (hs : sl + ms2 ≤ ms) (hst : (st.map fun v => v.category).sum ≤ 8) (hn : pc + 3 = n) (k : U g Γ nL Q (ce + mc2) (sl + ms2) n lv (r.toList ++ st) h1) : U g Γ nL Q ce sl pc lv (av.reverse ++ st) h := by
  obtain ⟨m1, m3, m4⟩ := hm
  refine U_run (r := r) (a := (av.map (eV g fun x => x)).toArray) C (fun ad H locs ls I hS hz => ?_) (fun m hw v hv => hw v (List.mem_append_right _ hv)) hn k
  have hwa : wS h.length av := fun v hv => hS v (List.mem_append_left _ (List.mem_reverse.mpr hv))
  have hMet := hM Γ.l ad H.size C.st hwa
  exact va_runSN (As := av.map (eV g ad)) (rest := st.map (eV g ad)) (Ts := BW) ⟨C.x, C.b, C.ml, C.o, C.w⟩ hMet
    ⟨va_cnB av.length C.w (bw_in (bw_code2 m4)) rfl rfl rfl (C.nb hl) (C.w _ m3) hy (C.fit hlv hmx), C.w _ m1, trivial⟩
    ⟨PreC.blind, fun s2 hH hW => ⟨rfl, Inv.pre C I hH hW⟩⟩ rfl (by simp) hz (by simp [List.map_append]) (lv_room (by simp only [List.map_map]; rw [show ((fun v : Value => v.category) ∘ eV g ad) = fun v => v.category from funext fun v => eV_cat g ad v]; exact hst)) d (C.rm hc hs)
theorem U_callI {y : MethodName} {cb : ByteArray} {maxL lvl2 i o : Nat} {av : List Value} {h1 : Hp} (C : Cx g Γ cc own nm nL rt lvl mc ms) (d : decode cc pc = .ok (.invokespecial i, 3)) (hl : Cond.methodLink own i y ∈ BW) (hm : IW y cb maxL) (hy : YN y av.length) (hmx : maxL ≤ 21) (hM : CM g y cb maxL none lvl2 mc2 ms2 (.ref o :: av) h (.inr none) h1) (hlv : lvl2 < lvl) (hc : ce + mc2 ≤ mc) (hs : sl + ms2 ≤ ms) (hst : (st.map fun v => v.category).sum ≤ 8) (hn : pc + 3 = n) (k : U g Γ nL Q (ce + mc2) (sl + ms2) n lv st h1) : U g Γ nL Q ce sl pc lv (av.reverse ++ .ref o :: st) h := by
  obtain ⟨m1, m3, m4, m5⟩ := hm
  refine U_run (r := none) (a := ((Value.ref o :: av).map (eV g fun x => x)).toArray) C (fun ad H locs ls I hS hz => ?_) (fun m hw v hv => hw v (List.mem_append_right _ (List.mem_cons_of_mem _ hv))) hn k
  have hwa : wS h.length (.ref o :: av) := fun v hv => hS v ((List.mem_cons.mp hv).elim (fun e => List.mem_append_right _ (by rw [e]; exact List.mem_cons_self)) (fun e => List.mem_append_left _ (List.mem_reverse.mpr e)))
  have hMet := hM Γ.l ad H.size C.st hwa
  exact va_runI (As := av.map (eV g ad)) (rest := st.map (eV g ad)) (b := ad o) (Ts := BW) ⟨C.x, C.b, C.ml, C.o, C.w⟩ hMet
    (cwI av.length C.w (bw_in (bw_code2 m4)) rfl rfl rfl (C.w _ m3) (C.w _ hl) (C.w _ m1) m5 hy (C.fit hlv hmx))
    ⟨PreC.blind, fun s2 hH hW => ⟨rfl, Inv.pre C I hH hW⟩⟩ rfl (by simp) hz (by simp [List.map_append, eV]) (lv_room (by simp only [List.map_map]; rw [show ((fun v : Value => v.category) ∘ eV g ad) = fun v => v.category from funext fun v => eV_cat g ad v]; exact hst)) d (C.rm hc hs)
theorem U_callIN {host : String} {y : MethodName} {cb : ByteArray} {maxL lvl2 i o : Nat} {av : List Value} {h1 : Hp} (C : Cx g Γ cc own nm nL rt lvl mc ms) (d : decode cc pc = .ok (.invokespecial i, 3)) (hl : Cond.methodLinkNest own i y host ∈ NB) (hm : IW y cb maxL) (hy : YN y av.length) (hmx : maxL ≤ 21) (hM : CM g y cb maxL none lvl2 mc2 ms2 (.ref o :: av) h (.inr none) h1) (hlv : lvl2 < lvl) (hc : ce + mc2 ≤ mc) (hs : sl + ms2 ≤ ms) (hst : (st.map fun v => v.category).sum ≤ 8) (hn : pc + 3 = n) (k : U g Γ nL Q (ce + mc2) (sl + ms2) n lv st h1) : U g Γ nL Q ce sl pc lv (av.reverse ++ .ref o :: st) h := by
  obtain ⟨m1, m3, m4, m5⟩ := hm
  refine U_run (r := none) (a := ((Value.ref o :: av).map (eV g fun x => x)).toArray) C (fun ad H locs ls I hS hz => ?_) (fun m hw v hv => hw v (List.mem_append_right _ (List.mem_cons_of_mem _ hv))) hn k
  have hwa : wS h.length (.ref o :: av) := fun v hv => hS v ((List.mem_cons.mp hv).elim (fun e => List.mem_append_right _ (by rw [e]; exact List.mem_cons_self)) (fun e => List.mem_append_left _ (List.mem_reverse.mpr e)))
  have hMet := hM Γ.l ad H.size C.st hwa
  exact va_runIN (As := av.map (eV g ad)) (rest := st.map (eV g ad)) (b := ad o) (Ts := BW) ⟨C.x, C.b, C.ml, C.o, C.w⟩ hMet
    ⟨va_cnB av.length C.w (bw_in (bw_code2 m4)) rfl rfl rfl (C.nb hl) (C.w _ m3) hy (C.fit hlv hmx), m5, C.w _ m1⟩
    ⟨PreC.blind, fun s2 hH hW => ⟨rfl, Inv.pre C I hH hW⟩⟩ rfl (by simp) hz (by simp [List.map_append, eV]) (lv_room (by simp only [List.map_map]; rw [show ((fun v : Value => v.category) ∘ eV g ad) = fun v => v.category from funext fun v => eV_cat g ad v]; exact hst)) d (C.rm hc hs)
theorem U_objInit {i o : Nat} (C : Cx g Γ cc own nm nL rt lvl mc ms) (d : decode cc pc = .ok (.invokespecial i, 3)) (hl : Cond.methodLink own i Lib.objectInit ∈ BW) (hi : Cond.instanceMethod Lib.objectInit ∈ BW) (hco : Cond.code Lib.objectInit ⟨#[0xb1]⟩ 1 none ∈ BW) (hst : (st.map fun v => v.category).sum ≤ 8) (hn : pc + 3 = n) (k : U g Γ nL Q ce sl n lv st h) : U g Γ nL Q ce sl pc lv (.ref o :: st) h := by
  subst hn
  intro ad H locs ls I hL hS hls
  have hz : (F0 Γ.m pc ls ((Value.ref o :: st).map (eV g ad))).locals.size = Γ.c.maxLocals := by rw [C.ml]; exact hls.1
  refine W.objInit C.x C.b C.o (C.w _ hl) (C.w _ hi) (C.w _ hco) rfl hz rfl d (Nat.le_trans (by omega) C.R.1) ?_ (k ad H locs ls I hL (wS_tl hS) hls)
  have e : ((st.map (eV g ad)).map fun v => v.category) = st.map fun v => v.category := by
    rw [List.map_map]; exact congrArg (fun f => st.map f) (funext fun v => eV_cat g ad v)
  show 2 * 0 + ((st.map (eV g ad)).map fun v => v.category).sum + 12 ≤ Γ.R.locals
  have r4 := C.R.2.2.2
  rw [e]; omega
end Ends2
