/-! A machine of its own over a list of cells, by their numbers: what a body does is told by U over numbers of cells; the rows below bring each instruction of the machine to U. -/
abbrev Hp : Type := List va_E
/-- the run's constants: the classes, the array classes by their tags, the literals' cells and their bytes, the script's cell -/
abbrev GT : Type := va_G × (Nat → Nat) × (Nat → Nat) × (Nat → Nat) × Nat × Option Nat
def GT.D (g : GT) : va_G := g.1
def GT.cy (g : GT) : Nat → Nat := g.2.1
def GT.aK (g : GT) : Nat → Nat := g.2.2.1
def GT.aV (g : GT) : Nat → Nat := g.2.2.2.1
def GT.b (g : GT) : Nat := g.2.2.2.2.1
/-- the formatter of the JDK's checks -/
def GT.fv (g : GT) : Option Nat := g.2.2.2.2.2
/-- a literal's cell; from 1000 on its bytes' cell -/
def GT.aS (g : GT) (k : Nat) : Nat := if k < 1000 then g.aK k else g.aV (k - 1000)
/-- a value's cell numbers become addresses; a float stands for a literal, a retAddr for the script -/
def eV (g : GT) (ad : Nat → Nat) (v : Value) : Value := match v with
  | .ref i => .ref (ad i)
  | .float k => .ref (g.aS k.toNat)
  | .retAddr k => if k = 0 then .ref g.b else va_rf g.fv
  | .int x => .int x
  | .long x => .long x
  | .double x => .double x
  | .null => .null
def isR (v : Value) : Bool := match v with
  | .ref _ => true
  | .float _ => true
  | .retAddr k => k == 0
  | _ => false
theorem eV_ref (g : GT) (ad : Nat → Nat) {v : Value} (h : isR v = true) : ∃ a, eV g ad v = .ref a := by
  cases v with
  | retAddr k =>
    have hk : k = 0 := by simpa [isR] using h
    subst hk
    exact ⟨_, rfl⟩
  | ref _ => exact ⟨_, rfl⟩
  | float _ => exact ⟨_, rfl⟩
  | _ => cases h
theorem eV_cat (g : GT) (ad : Nat → Nat) (v : Value) : (eV g ad v).category = v.category := by
  cases v with
  | retAddr k =>
    simp only [eV]
    by_cases hk : k = 0
    · rw [if_pos hk]; rfl
    · rw [if_neg hk]
      cases g.fv <;> rfl
  | _ => rfl
def eA (ad : Nat → Nat) (a : vp_A) : vp_A := match a with
  | (n, .inl f) => (n, .inl f)
  | (n, .inr (.inl f)) => (n, .inr (.inl f))
  | (n, .inr (.inr (.inl f))) => (n, .inr (.inr (.inl f)))
  | (n, .inr (.inr (.inr (.inl f)))) => (n, .inr (.inr (.inr (.inl f))))
  | (n, .inr (.inr (.inr (.inr f)))) => (n, .inr (.inr (.inr (.inr fun i => (f i).map ad))))
def eE (g : GT) (ad : Nat → Nat) (c : va_E) : va_E := match c with
  | .inl (t, a) => .inl (g.cy t, eA ad a)
  | .inr (c, fs) => .inr (c, fs.map (eV g ad))
def eW (g : GT) (ad : Nat → Nat) (h : Hp) : va_W := h.mapIdx fun i c => (ad i, eE g ad c)
def wV (n : Nat) (v : Value) : Prop := match v with
  | .ref i => i < n
  | _ => True
def wE (n : Nat) (c : va_E) : Prop := match c with
  | .inl (_, (_, .inr (.inr (.inr (.inr f))))) => ∀ i a, f i = some a → a < n
  | .inl _ => True
  | .inr (_, fs) => ∀ v ∈ fs, wV n v
def wH (h : Hp) : Prop := ∀ (i : Nat) (c : va_E), h[i]? = some c → wE h.length c
def wS (n : Nat) (st : List Value) : Prop := ∀ v ∈ st, wV n v
def wL (n : Nat) (lv : List (Nat × Value)) : Prop := ∀ q ∈ lv, wV n q.2
theorem wV_int {n : Nat} (x : Int32) : wV n (.int x) := trivial
theorem wV_long {n : Nat} (x : Int64) : wV n (.long x) := trivial
theorem wS_cons {n : Nat} {v : Value} {st : List Value} (h : wV n v) (t : wS n st) : wS n (v :: st) := fun w hw => (List.mem_cons.mp hw).elim (fun e => e ▸ h) (t w)
theorem wS_int {n : Nat} {x : Int32} {st : List Value} (t : wS n st) : wS n (.int x :: st) := wS_cons trivial t
theorem wS_long {n : Nat} {x : Int64} {st : List Value} (t : wS n st) : wS n (.long x :: st) := wS_cons trivial t
theorem wS_tl {n : Nat} {v : Value} {st : List Value} (t : wS n (v :: st)) : wS n st := fun w hw => t w (List.mem_cons_of_mem _ hw)
theorem wS_hd {n : Nat} {v : Value} {st : List Value} (t : wS n (v :: st)) : wV n v := t v List.mem_cons_self
theorem wS_nil {n : Nat} : wS n [] := fun _ h => absurd h List.not_mem_nil
theorem wL_at {n j i : Nat} {v : Value} {lv : List (Nat × Value)} (h : wL n lv) (hj : lv[j]? = some (i, v)) : wV n v := h (i, v) (List.mem_of_getElem? hj)
theorem wL_cons {n i : Nat} {v : Value} {lv : List (Nat × Value)} (hv : wV n v) (h : wL n lv) : wL n ((i, v) :: lv) := fun q hq => (List.mem_cons.mp hq).elim (fun e => by rw [e]; exact hv) (h q)
theorem wL_filter {n : Nat} {p : Nat × Value → Bool} {lv : List (Nat × Value)} (h : wL n lv) : wL n (lv.filter p) := fun q hq => h q (List.mem_filter.mp hq).1
theorem wV_mono {n n2 : Nat} (hn : n ≤ n2) {v : Value} (h : wV n v) : wV n2 v := by cases v <;> first | exact Nat.lt_of_lt_of_le h hn | trivial
theorem wE_mono {n n2 : Nat} (hn : n ≤ n2) {c : va_E} (h : wE n c) : wE n2 c := by
  rcases c with ⟨t, m, f | f | f | f | f⟩ | ⟨c, fs⟩
  · trivial
  · trivial
  · trivial
  · trivial
  · exact fun i a e => Nat.lt_of_lt_of_le (h i a e) hn
  · exact fun v hv => wV_mono hn (h v hv)
theorem eV_congr (g : GT) {ad ad2 : Nat → Nat} {n : Nat} (ha : ∀ i, i < n → ad2 i = ad i) {v : Value} (h : wV n v) : eV g ad2 v = eV g ad v := by
  cases v <;> first | rfl | exact congrArg Value.ref (ha _ h)
theorem eE_congr (g : GT) {ad ad2 : Nat → Nat} {n : Nat} (ha : ∀ i, i < n → ad2 i = ad i) {c : va_E} (h : wE n c) : eE g ad2 c = eE g ad c := by
  rcases c with ⟨t, m, f | f | f | f | f⟩ | ⟨c, fs⟩
  · rfl
  · rfl
  · rfl
  · rfl
  · simp only [eE, eA]
    refine congrArg (fun z => Sum.inl (g.cy t, m, Sum.inr (Sum.inr (Sum.inr (Sum.inr z))))) (funext fun i => ?_)
    cases e : f i with
    | none => rfl
    | some a => exact congrArg some (ha a (h i a e))
  · simp only [eE]
    refine congrArg (fun z => Sum.inr (c, z)) (List.map_congr_left fun v hv => eV_congr g ha (h v hv))
theorem eW_get (g : GT) (ad : Nat → Nat) {h : Hp} {i : Nat} {c : va_E} (hi : h[i]? = some c) : (eW g ad h)[i]? = some (ad i, eE g ad c) := by
  simp [eW, hi]
theorem eW_set (g : GT) (ad : Nat → Nat) (h : Hp) (i : Nat) (c : va_E) : eW g ad (h.set i c) = (eW g ad h).set i (ad i, eE g ad c) := by
  refine List.ext_getElem? fun j => ?_
  simp only [eW, List.getElem?_mapIdx, List.getElem?_set, List.length_mapIdx]
  by_cases hj : i = j
  · subst hj
    by_cases hl : i < h.length <;> simp [hl]
  · simp [hj]
theorem eW_len (g : GT) (ad : Nat → Nat) (h : Hp) : (eW g ad h).length = h.length := by simp [eW]
theorem eW_congr (g : GT) {ad ad2 : Nat → Nat} {h : Hp} (hw : wH h) (ha : ∀ i, i < h.length → ad2 i = ad i) : eW g ad2 h = eW g ad h := by
  refine List.ext_getElem? fun j => ?_
  simp only [eW, List.getElem?_mapIdx]
  cases e : h[j]? with
  | none => rfl
  | some c =>
    have hj : j < h.length := (List.getElem?_eq_some_iff.mp e).1
    simp only [Option.map_some]
    rw [ha j hj, eE_congr g ha (hw j c e)]
theorem eW_push (g : GT) {ad : Nat → Nat} {h : Hp} (hw : wH h) {c : va_E} (q : Nat) (hc : ∀ ad2 : Nat → Nat, eE g ad2 c = eE g ad c) : eW g (fun i => if i = h.length then q else ad i) (h ++ [c]) = eW g ad h ++ [(q, eE g ad c)] := by
  have e1 : eW g (fun i => if i = h.length then q else ad i) (h ++ [c]) = eW g (fun i => if i = h.length then q else ad i) h ++ [(q, eE g ad c)] := by
    simp only [eW, List.mapIdx_append, List.mapIdx_cons, List.mapIdx_nil, Nat.zero_add, if_true]
    rw [hc]
  rw [e1, eW_congr g hw (fun i hi => if_neg (Nat.ne_of_lt hi))]
theorem wH_set {h : Hp} (hw : wH h) (i : Nat) {c : va_E} (hc : wE h.length c) : wH (h.set i c) := by
  intro j d hj
  rw [List.length_set]
  rw [List.getElem?_set] at hj
  by_cases e : i = j
  · rw [if_pos e] at hj
    by_cases hl : i < h.length
    · rw [if_pos hl] at hj
      cases hj
      exact hc
    · rw [if_neg hl] at hj
      cases hj
  · rw [if_neg e] at hj
    exact hw j d hj
theorem wH_push {h : Hp} (hw : wH h) {c : va_E} (hc : wE h.length c) : wH (h ++ [c]) := by
  intro j d hj
  have hle : h.length ≤ (h ++ [c]).length := by simp
  rw [List.getElem?_append] at hj
  by_cases hl : j < h.length
  · rw [if_pos hl] at hj
    exact wE_mono hle (hw j d hj)
  · rw [if_neg hl] at hj
    have : d = c := by
      cases e : j - h.length with
      | zero => rw [e] at hj; exact (Option.some.inj hj).symm
      | succ k => rw [e] at hj; cases hj
    rw [this]
    exact wE_mono hle hc
theorem flt_map (g : GT) (ad : Nat → Nat) (i : Nat) (lv : List (Nat × Value)) : (lv.filter (fun q => !(q.1 == i) && !(q.1 + 1 == i && q.2.category == 2))).map (fun q => (q.1, eV g ad q.2)) = (lv.map fun q => (q.1, eV g ad q.2)).filter (fun q => !(q.1 == i) && !(q.1 + 1 == i && q.2.category == 2)) := by
  rw [List.filter_map]
  refine congrArg _ (List.filter_congr fun q _ => ?_)
  simp only [Function.comp, eV_cat]
theorem flt_map2 (g : GT) (ad : Nat → Nat) (i : Nat) (lv : List (Nat × Value)) : (lv.filter (fun q => !(q.1 == i) && (!(q.1 == i + 1) && !(q.1 + 1 == i && q.2.category == 2)))).map (fun q => (q.1, eV g ad q.2)) = (lv.map fun q => (q.1, eV g ad q.2)).filter (fun q => !(q.1 == i) && (!(q.1 == i + 1) && !(q.1 + 1 == i && q.2.category == 2))) := by
  rw [List.filter_map]
  refine congrArg _ (List.filter_congr fun q _ => ?_)
  simp only [Function.comp, eV_cat]
theorem lv_mapm (g : GT) (ad : Nat → Nat) {lv : List (Nat × Value)} {j i : Nat} {v : Value} (hj : lv[j]? = some (i, v)) : (lv.map fun q => (q.1, eV g ad q.2))[j]? = some (i, eV g ad v) := by
  rw [List.getElem?_map, hj]; rfl
theorem lv_atm (g : GT) (ad : Nat → Nat) {lv : List (Nat × Value)} {ls : Array Slot} {nL : Nat} (hl : lv_has ls nL (lv.map fun q => (q.1, eV g ad q.2))) (j : Nat) {i : Nat} {v : Value} (hj : lv[j]? = some (i, v)) : ls[i]? = some (.val (eV g ad v)) := lv_at hl j (lv_mapm g ad hj)
theorem lv_mapc (g : GT) {ad ad2 : Nat → Nat} {n : Nat} (ha : ∀ i, i < n → ad2 i = ad i) {lv : List (Nat × Value)} (h : wL n lv) : (lv.map fun q => (q.1, eV g ad2 q.2)) = lv.map fun q => (q.1, eV g ad q.2) := List.map_congr_left fun q hq => by rw [eV_congr g ha (h q hq)]
theorem st_mapc (g : GT) {ad ad2 : Nat → Nat} {n : Nat} (ha : ∀ i, i < n → ad2 i = ad i) {st : List Value} (h : wS n st) : st.map (eV g ad2) = st.map (eV g ad) := List.map_congr_left fun v hv => eV_congr g ha (h v hv)
theorem lv_args_map (g : GT) (ad : Nat → Nat) : ∀ (vs : List Value) (i : Nat), lv_args i (vs.map (eV g ad)) = (lv_args i vs).map fun q => (q.1, eV g ad q.2)
  | [], _ => rfl
  | v :: vs, i => by
    simp only [List.map_cons, lv_args, eV_cat]
    rw [lv_args_map g ad vs]
theorem wL_args {n : Nat} : ∀ (vs : List Value) (i : Nat), wS n vs → wL n (lv_args i vs)
  | [], _, _ => fun _ h => absurd h List.not_mem_nil
  | v :: vs, i, h => wL_cons (wS_hd h) (wL_args vs _ (wS_tl h))
/-- what stays fixed over one body -/
abbrev CT : Type := Program × Launch × Env × Room × State × MethodId × Array Value × List Frame × Method × Code × (Nat → Prop) × Nat × (Nat → Nat)
def CT.p (x : CT) : Program := x.1
def CT.l (x : CT) : Launch := x.2.1
def CT.e (x : CT) : Env := x.2.2.1
def CT.R (x : CT) : Room := x.2.2.2.1
def CT.s (x : CT) : State := x.2.2.2.2.1
def CT.m (x : CT) : MethodId := x.2.2.2.2.2.1
def CT.args (x : CT) : Array Value := x.2.2.2.2.2.2.1
def CT.below (x : CT) : List Frame := x.2.2.2.2.2.2.2.1
def CT.meth (x : CT) : Method := x.2.2.2.2.2.2.2.2.1
def CT.c (x : CT) : Code := x.2.2.2.2.2.2.2.2.2.1
def CT.A (x : CT) : Nat → Prop := x.2.2.2.2.2.2.2.2.2.2.1
def CT.n0 (x : CT) : Nat := x.2.2.2.2.2.2.2.2.2.2.2.1
def CT.ad0 (x : CT) : Nat → Nat := x.2.2.2.2.2.2.2.2.2.2.2.2
def Inv (g : GT) (Γ : CT) (ad : Nat → Nat) (h : Hp) (H : Heap) (locs : List Loc) : Prop :=
  va_P g.D vwCl (eW g ad h) H ∧ va_D Γ.A (eW g ad h) ∧ va_S Γ.A Γ.s.heap H locs ∧ wH h ∧ Γ.n0 ≤ h.length ∧ ∀ i, i < Γ.n0 → ad i = Γ.ad0 i
def U (g : GT) (Γ : CT) (nL : Nat) (Q : State → Prop) (ce sl pc : Nat) (lv : List (Nat × Value)) (st : List Value) (h : Hp) : Prop :=
  ∀ (ad : Nat → Nat) (H : Heap) (locs : List Loc) (ls : Array Slot), Inv g Γ ad h H locs → wL h.length lv → wS h.length st → lv_has ls nL (lv.map fun q => (q.1, eV g ad q.2)) →
    W Γ.p Γ.l Γ.e Γ.R Γ.s Γ.m Γ.args Γ.below Γ.meth Γ.c H locs ce sl Q (F0 Γ.m pc ls (st.map (eV g ad)))
/-! what a body may take for granted of the machine, and its contract -/
def tys (g : GT) : List (ClassId × FieldType) := [(g.cy 0, .int), (g.cy 1, .long), (g.cy 2, .object RX2)]
/-- the literals whose letters are read -/
def SK : List (Nat × String × Nat) := [(72, "plus", 0), (74, "minus", 1), (76, "zero", 2), (78, "drop", 3), (80, "derive", 4), (82, "mirror", 5)]
def lenS : List Nat := [4, 5, 4, 4, 6, 6]
def bytS : List (List Int32) := [[112, 108, 117, 115], [109, 105, 110, 117, 115], [122, 101, 114, 111], [100, 114, 111, 112], [100, 101, 114, 105, 118, 101], [109, 105, 114, 114, 111, 114]]
/-- the literals that only go into exceptions -/
def SR : List (String × Nat × String) := [(RX3, 69, "points is out of range"), (RX3, 87, "sign is out of range"), (RX3, 105, "the triple is not given"), (RX3, 132, "the points are equal"), (RX3, 157, "what is out of range"), (RX3, 195, "too many triples are unknown"), (RX3, 201, "a sign is unknown"), (RX3, 206, "a triple is unknown"), (RX3, 214, "a coordinate is out of range"), (RX3, 234, "seed is out of range"), (RX3, 236, "tries is out of range"), (RX3, 238, "range is out of range"), (RX3, 248, "value is out of range"), (RX3, 253, "the script is full"), (RX3, 268, "index is negative"), (RX3, 286, "the undo stack is empty"), (RX3, 323, "there is no such point"), (RX3, 326, "there is no such triple"), (RX3, 328, "there is no such relation"), (RX3, 334, "two of the points are equal")]
def vkS (g : GT) (A : Nat → Prop) (u : State) (H : Heap) : Prop := ∀ i : Nat, i < 6 → va_O "java/lang/String" (g.aK i) A u H ∧ va_OF "java/lang/String" "coder" "B" (.int 0) (g.aK i) A u H ∧ va_OF "java/lang/String" "value" "[B" (.ref (g.aV i)) (g.aK i) A u H ∧ va_T .byte (g.aV i) (lenS.getD i 0) (fun j => .int ((bytS.getD i []).getD j 0)) A u H
theorem vkS.moved {g : GT} {A : Nat → Prop} {u v : State} {H : Heap} (hvm : u.vm.Alike v.vm) (h : vkS g A u H) : vkS g A v H := fun i hi => ⟨va_O.moved hvm (h i hi).1, va_OF.moved hvm (h i hi).2.1, va_OF.moved hvm (h i hi).2.2.1, va_T.moved hvm (h i hi).2.2.2⟩
theorem vkS.kept {g : GT} {A : Nat → Prop} {u : State} {H H1 : Heap} (h : vkS g A u H) (hq : ∀ a : Nat, a < H.size → ¬ A a → H1[a]? = H[a]?) : vkS g A u H1 := fun i hi => ⟨(h i hi).1.kept hq, (h i hi).2.1.kept hq, (h i hi).2.2.1.kept hq, (h i hi).2.2.2.kept hq⟩
theorem vkS.narrow {g : GT} {A B : Nat → Prop} {u : State} {H : Heap} (h : vkS g A u H) (hAB : ∀ q, B q → A q) : vkS g B u H := fun i hi => ⟨(h i hi).1.narrow hAB, (h i hi).2.1.narrow hAB, (h i hi).2.2.1.narrow hAB, (h i hi).2.2.2.narrow hAB⟩
def EvK (g : GT) (X : Nat → Prop) (s : State) (H : Heap) : Prop :=
  va_K g.D vwCl (tys g) s ∧ (∀ w ∈ NB, va_Nw w s) ∧ (∀ q ∈ SR, ∃ a, vk_R q.1 q.2.1 q.2.2 a s) ∧ (∀ q ∈ SK, vk_R RX1 q.1 q.2.1 (g.aK q.2.2) s) ∧ va_AO RX2 s ∧
  vx_Zq Bundle.tN "UNASSIGNED_STACK" Bundle.steD X s H ∧ vx_Zq Bundle.tN "SUPPRESSED_SENTINEL" Bundle.listD X s H ∧ va_Z "java/lang/String" "COMPACT_STRINGS" "Z" (.int 1) X s H ∧
  va_Z "jdk/internal/util/Preconditions" "SIOOBE_FORMATTER" "Ljava/util/function/BiFunction;" (va_rf g.fv) X s H ∧ vkS g X s H ∧
  va_Nc "java/lang/IllegalArgumentException" "java/lang/IndexOutOfBoundsException" s ∧ va_Nc "java/lang/IllegalStateException" "java/lang/IndexOutOfBoundsException" s ∧ va_Nc "java/lang/IllegalStateException" "java/lang/IllegalArgumentException" s
theorem EvK.warm {g : GT} {X : Nat → Prop} {s u : State} {H : Heap} (hW : s.WarmedH u.vm) (h : EvK g X s H) : EvK g X u H := by
  obtain ⟨h1, h2, h3, h4, h5, h6, h7, h8, h9, h10, h11, h12, h13⟩ := h
  have hA := hW.alike
  exact ⟨va_K.moved hA h1, fun w hw => nb_warm (List.mem_filter.mp hw).2 hW (h2 w hw), fun q hq => (h3 q hq).imp fun _ e => vk_R.warm hW e, fun q hq => vk_R.warm hW (h4 q hq), va_AO.moved hA h5, vx_Zq.moved hA h6, vx_Zq.moved hA h7, va_Z.moved hA h8, va_Z.moved hA h9, vkS.moved hA h10, va_Nc.moved hA h11, va_Nc.moved hA h12, va_Nc.moved hA h13⟩
theorem EvK.same {g : GT} {X : Nat → Prop} {s u : State} {H : Heap} (hv : s.vm = u.vm) (h : EvK g X s H) : EvK g X u H := by
  obtain ⟨h1, h2, h3, h4, h5, h6, h7, h8, h9, h10, h11, h12, h13⟩ := h
  have hA : s.vm.Alike u.vm := by rw [hv]; exact Vm.Alike.refl _
  exact ⟨va_K.moved hA h1, fun w hw => va_Nw.same (nb_tab (List.mem_filter.mp hw).2) hv (h2 w hw), fun q hq => (h3 q hq).imp fun _ e => vk_R.same hv.symm e, fun q hq => vk_R.same hv.symm (h4 q hq), va_AO.moved hA h5, vx_Zq.moved hA h6, vx_Zq.moved hA h7, va_Z.moved hA h8, va_Z.moved hA h9, vkS.moved hA h10, va_Nc.moved hA h11, va_Nc.moved hA h12, va_Nc.moved hA h13⟩
theorem EvK.kept {g : GT} {X : Nat → Prop} {s : State} {H H1 : Heap} (h : EvK g X s H) (hq : ∀ a : Nat, a < H.size → ¬ X a → H1[a]? = H[a]?) : EvK g X s H1 := by
  obtain ⟨h1, h2, h3, h4, h5, h6, h7, h8, h9, h10, h11, h12, h13⟩ := h
  exact ⟨h1, h2, h3, h4, h5, h6.kept hq, h7.kept hq, h8.kept hq, h9.kept hq, h10.kept hq, h11, h12, h13⟩
theorem EvK.narrow {g : GT} {X Y : Nat → Prop} {s : State} {H : Heap} (h : EvK g X s H) (hXY : ∀ q, Y q → X q) : EvK g Y s H := by
  obtain ⟨h1, h2, h3, h4, h5, h6, h7, h8, h9, h10, h11, h12, h13⟩ := h
  exact ⟨h1, h2, h3, h4, h5, h6.narrow hXY, h7.narrow hXY, h8.narrow hXY, h9.narrow hXY, h10.narrow hXY, h11, h12, h13⟩
def Cx (g : GT) (Γ : CT) (cc : ByteArray) (own nm : String) (nL : Nat) (rt : Option FieldType) (lvl mc ms : Nat) : Prop :=
  Γ.p.tables.exec = Jvm.exec ∧ Γ.c.code = cc ∧ Γ.c.maxLocals = nL ∧ Γ.s.vm.findClass own = some Γ.m.cls ∧ (∀ w ∈ BW, w.before Γ.args Γ.s = true) ∧ Γ.meth.locks = false ∧ Γ.meth.sig.returnType = rt ∧ Γ.l.stackTraces = false ∧
  (∀ q, Γ.s.heap.size ≤ q → Γ.A q) ∧ EvK g Γ.A Γ.s Γ.s.heap ∧ (lvl + 12 ≤ Γ.R.frames ∧ mc ≤ Γ.R.cells ∧ ms ≤ Γ.R.slots ∧ 40 * lvl + 200 ≤ Γ.R.locals) ∧ Γ.meth.name = nm ∧ (own = RL ∨ ∀ x ∈ Γ.c.exceptionTable.toList, False)
section CxP
variable {g : GT} {Γ : CT} {cc : ByteArray} {own nm : String} {nL : Nat} {rt : Option FieldType} {lvl mc ms : Nat}
theorem Cx.x (C : Cx g Γ cc own nm nL rt lvl mc ms) : Γ.p.tables.exec = Jvm.exec := C.1
theorem Cx.b (C : Cx g Γ cc own nm nL rt lvl mc ms) : Γ.c.code = cc := C.2.1
theorem Cx.ml (C : Cx g Γ cc own nm nL rt lvl mc ms) : Γ.c.maxLocals = nL := C.2.2.1
theorem Cx.o (C : Cx g Γ cc own nm nL rt lvl mc ms) : Γ.s.vm.findClass own = some Γ.m.cls := C.2.2.2.1
theorem Cx.w (C : Cx g Γ cc own nm nL rt lvl mc ms) : ∀ w, w ∈ BW → w.before Γ.args Γ.s = true := C.2.2.2.2.1
theorem Cx.lk (C : Cx g Γ cc own nm nL rt lvl mc ms) : Γ.meth.locks = false := C.2.2.2.2.2.1
theorem Cx.rty (C : Cx g Γ cc own nm nL rt lvl mc ms) : Γ.meth.sig.returnType = rt := C.2.2.2.2.2.2.1
theorem Cx.st (C : Cx g Γ cc own nm nL rt lvl mc ms) : Γ.l.stackTraces = false := C.2.2.2.2.2.2.2.1
theorem Cx.fr (C : Cx g Γ cc own nm nL rt lvl mc ms) : ∀ q, Γ.s.heap.size ≤ q → Γ.A q := C.2.2.2.2.2.2.2.2.1
theorem Cx.ev (C : Cx g Γ cc own nm nL rt lvl mc ms) : EvK g Γ.A Γ.s Γ.s.heap := C.2.2.2.2.2.2.2.2.2.1
theorem Cx.R (C : Cx g Γ cc own nm nL rt lvl mc ms) : lvl + 12 ≤ Γ.R.frames ∧ mc ≤ Γ.R.cells ∧ ms ≤ Γ.R.slots ∧ 40 * lvl + 200 ≤ Γ.R.locals := C.2.2.2.2.2.2.2.2.2.2.1
theorem Cx.nme (C : Cx g Γ cc own nm nL rt lvl mc ms) : Γ.meth.name = nm := C.2.2.2.2.2.2.2.2.2.2.2.1
theorem Cx.nh (C : Cx g Γ cc own nm nL rt lvl mc ms) (ho : own ≠ RL) : ∀ x ∈ Γ.c.exceptionTable.toList, False := C.2.2.2.2.2.2.2.2.2.2.2.2.resolve_left ho
theorem Cx.K (C : Cx g Γ cc own nm nL rt lvl mc ms) : va_K g.D vwCl (tys g) Γ.s := C.ev.1
theorem Cx.nb (C : Cx g Γ cc own nm nL rt lvl mc ms) {w : Cond} (h : w ∈ NB) : va_Nw w Γ.s := C.ev.2.1 w h
theorem Cx.nbw (C : Cx g Γ cc own nm nL rt lvl mc ms) {w : Cond} (h : w ∈ NB) : w.before Γ.args Γ.s = true := va_Nw.use (nb_tab (List.mem_filter.mp h).2) (C.ev.2.1 w h)
end CxP
def PreC (g : GT) (ad : Nat → Nat) (h : Hp) (sz : Nat) : State → Prop := fun s => s.heap.size = sz ∧ va_P g.D vwCl (eW g ad h) s.heap ∧ va_D (fun _ => True) (eW g ad h) ∧ wH h ∧ EvK g (va_A (eW g ad h) sz) s s.heap
theorem PreC.blind {g : GT} {ad : Nat → Nat} {h : Hp} {sz : Nat} {av : List Value} : FrameBlind (va_Pc av (PreC g ad h sz)) := fun a s f mk q => by
  obtain ⟨q0, q1, q2, q3, q4, q5⟩ := q
  exact ⟨q0, q1, q2, q3, q4, EvK.same (s := s) (u := s.calling f mk a) (H := s.heap) rfl q5⟩
/-- the world behind a body -/
def WrC (g : GT) (n0 : Nat) (ad0 : Nat → Nat) (h2 : Hp) (A : Nat → Prop) (ad2 : Nat → Nat) (t : State) : Prop :=
  (∀ i, i < n0 → ad2 i = ad0 i) ∧ va_P g.D vwCl (eW g ad2 h2) t.heap ∧ va_D A (eW g ad2 h2) ∧ wH h2 ∧ n0 ≤ h2.length
def PostC (g : GT) (n0 : Nat) (ad0 : Nat → Nat) (h2 : Hp) (r : Option Value) (A : Nat → Prop) : Array Value → State → Outcome → State → Prop := fun _ st o t =>
  (∃ ad2, WrC g n0 ad0 h2 A ad2 t ∧ o = .returned (r.map (eV g ad2)) ∧ ∀ v, r = some v → wV h2.length v) ∧ va_F A st t
def exN : Nat → String
  | 0 => "java/lang/IllegalArgumentException"
  | 1 => "java/lang/IndexOutOfBoundsException"
  | _ => "java/lang/IllegalStateException"
def XCC (g : GT) (n0 : Nat) (ad0 : Nat → Nat) (h2 : Hp) (k : Nat) (A : Nat → Prop) : String → State → State → Prop := fun E st t => E = exN k ∧ (∃ ad2, WrC g n0 ad0 h2 A ad2 t) ∧ va_F A st t
def er {α : Type} (r : Nat ⊕ α) : Nat := match r with
  | .inl _ => 1
  | .inr _ => 0
/-- a body's contract: with these arguments over these cells it answers so, or throws so, and leaves these cells -/
def CM (g : GT) (y : MethodName) (cc : ByteArray) (maxL : Nat) (rt : Option FieldType) (lvl mc ms : Nat) (av : List Value) (h : Hp) (res : Nat ⊕ Option Value) (h2 : Hp) : Prop :=
  ∀ (l : Launch) (ad : Nat → Nat) (sz : Nat), l.stackTraces = false → wS h.length av → match res with
    | .inr r => Met l y (Cond.code y cc maxL rt :: BW) { frames := lvl + 12, cells := mc, slots := ms, locals := 40 * lvl + 200 } (va_Pc (av.map (eV g ad)) (PreC g ad h sz)) (PostC g h.length ad h2 r (va_A (eW g ad h) sz)) mc ms (va_A (eW g ad h) sz)
    | .inl k => vx_Met l y (Cond.code y cc maxL rt :: BW) { frames := lvl + 12, cells := mc + 1, slots := ms + 6, locals := 40 * lvl + 200 } (va_Pc (av.map (eV g ad)) (PreC g ad h sz)) (fun _ _ _ _ => False) (XCC g h.length ad h2 k (va_A (eW g ad h) sz)) (mc + 1) (ms + 6) (va_A (eW g ad h) sz)
def Qe (g : GT) (Γ : CT) (res : Nat ⊕ Option Value) (h2 : Hp) (mc ms : Nat) : State → Prop := match res with
  | .inr r => MQ Γ.below (PostC g Γ.n0 Γ.ad0 h2 r Γ.A) Γ.args Γ.s mc ms Γ.A
  | .inl k => vx_MQ Γ.below (fun _ _ _ _ => False) (XCC g Γ.n0 Γ.ad0 h2 k Γ.A) Γ.args Γ.s (mc + 1) (ms + 6) Γ.A
theorem bw_code {y : MethodName} {cc : ByteArray} {maxL : Nat} {rt : Option FieldType} {args : Array Value} {s : State} (hts : ∀ w ∈ (Cond.code y cc maxL rt :: BW), w.before args s = true) : ∀ w ∈ BW, w.before args s = true := fun w hw => hts w (List.mem_cons_of_mem _ hw)
theorem CM_of {g : GT} {y : MethodName} {cc : ByteArray} {maxL : Nat} {rt : Option FieldType} {lvl mc ms : Nat} {av : List Value} {h : Hp} {res : Nat ⊕ Option Value} {h2 : Hp} (hy : plainName y.cls = true) (hlen : ∀ ad, (lg_sl (av.map (eV g ad))).length ≤ maxL)
    (body : ∀ Γ, Cx g Γ cc y.cls y.name maxL rt lvl (mc + er res) (ms + 6 * er res) → Γ.n0 = h.length → U g Γ maxL (Qe g Γ res h2 mc ms) 0 0 0 (lv_args 0 av) [] h) : CM g y cc maxL rt lvl mc ms av h res h2 := by
  intro l ad sz hl hav
  have key : ∀ p e s m args below meth c s₁ (rm : Room), rm = { frames := lvl + 12, cells := mc + er res, slots := ms + 6 * er res, locals := 40 * lvl + 200 } → BodyLoose p l y (headSpec (Cond.code y cc maxL rt :: BW) rm) cc maxL rt e s m args below meth c s₁ → c.maxLocals = maxL → (∀ x ∈ c.exceptionTable.toList, False) → va_Pc (av.map (eV g ad)) (PreC g ad h sz) args s →
      ∀ Γ, Γ = ((p, l, e, rm, s, m, args, below, meth, c, va_A (eW g ad h) sz, h.length, ad) : CT) → W p l e rm s m args below meth c s.heap [] 0 0 (Qe g Γ res h2 mc ms) (entryFrame m args maxL) := by
    intro p e s m args below meth c s₁ rm hrm B hml hnh hv Γ hΓ
    subst hΓ
    obtain ⟨hargs, hsz, hP, hD, hw, hev⟩ := hv
    have hts := atoms_spec (ws := Cond.code y cc maxL rt :: BW) B.pre
    have C : Cx g ((p, l, e, rm, s, m, args, below, meth, c, va_A (eW g ad h) sz, h.length, ad) : CT) cc y.cls y.name maxL rt lvl (mc + er res) (ms + 6 * er res) :=
      ⟨B.exec, B.bytes, hml, findClass_of_methodNamed B.named, bw_code hts, B.notSynchronized, B.returns, hl, fun q hq => Or.inr (by rw [← hsz]; exact hq), hev, by rw [hrm]; exact ⟨Nat.le_refl _, Nat.le_refl _, Nat.le_refl _, Nat.le_refl _⟩, (name_of_methodNamed B.named B.method).1, Or.inr hnh⟩
    have hle := lv_entry (av.map (eV g ad)) (n := maxL) (hlen ad)
    rw [lv_args_map] at hle
    have hD2 : va_D (va_A (eW g ad h) sz) (eW g ad h) := hD.self
    have K := body _ C rfl ad s.heap [] _ ⟨hP, hD2, va_S.rf, hw, Nat.le_refl _, fun _ _ => rfl⟩ (wL_args av 0 hav) wS_nil hle
    rw [hargs, lg_entry_eq]
    subst hargs
    exact K
  cases res with
  | inr r =>
    refine Met.ofW (cc := cc) (maxL := maxL) (ret := rt) hy rfl ?_
    intro p e s m args below meth c s₁ B hml hv
    have ht : ∀ x ∈ c.exceptionTable.toList, False := by
      obtain ⟨meth9, c9, h1, h2, -, -, -, -, h7, -⟩ := Cond.code_spec B.named (atoms_spec (ws := Cond.code y cc maxL rt :: BW) B.pre _ List.mem_cons_self)
      cases Option.some.inj (h1.symm.trans B.method)
      cases Option.some.inj (h2.symm.trans (Stand.of_body B).code)
      intro x hx
      rw [Array.isEmpty_iff.mp h7] at hx
      cases hx
    exact key p e s m args below meth c s₁ _ rfl B hml ht hv _ rfl
  | inl k =>
    refine vx_ofW (cc := cc) (maxL := maxL) (ret := rt) hy rfl ?_
    intro p e s m args below meth c s₁ B hml ht hv
    exact key p e s m args below meth c s₁ _ rfl B hml ht hv _ rfl
