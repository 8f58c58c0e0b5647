/-! cells: reads, writes, makings -/
def rc (ci : Nat) (h : Hp) (o : Nat) : Option Unit := match h[o]? with
  | some (.inr (c, _)) => if c = ci then some () else none
  | _ => none
def fI (ci k : Nat) (h : Hp) (o : Nat) : Option Int32 := match h[o]? with
  | some (.inr (c, fs)) => if c = ci then (match fs[k]? with
    | some (.int v) => some v
    | _ => none) else none
  | _ => none
def fJ (ci k : Nat) (h : Hp) (o : Nat) : Option Int64 := match h[o]? with
  | some (.inr (c, fs)) => if c = ci then (match fs[k]? with
    | some (.long v) => some v
    | _ => none) else none
  | _ => none
def fR (ci k : Nat) (h : Hp) (o : Nat) : Option Nat := match h[o]? with
  | some (.inr (c, fs)) => if c = ci then (match fs[k]? with
    | some (.ref v) => some v
    | _ => none) else none
  | _ => none
def sF (ci k : Nat) (v : Value) (h : Hp) (o : Nat) : Option Hp := match h[o]? with
  | some (.inr (c, fs)) => if c = ci ∧ k < fs.length then some (h.set o (.inr (c, fs.set k v))) else none
  | _ => none
def aI (h : Hp) (a : Nat) (i : Int32) : Option Int32 := match h[a]? with
  | some (.inl (t, (n, .inl f))) => if t = 0 ∧ ¬ (i < 0 ∨ n ≤ i.toNatClampNeg) then some (f i.toNatClampNeg) else none
  | _ => none
def aJ (h : Hp) (a : Nat) (i : Int32) : Option Int64 := match h[a]? with
  | some (.inl (t, (n, .inr (.inl f)))) => if t = 1 ∧ ¬ (i < 0 ∨ n ≤ i.toNatClampNeg) then some (f i.toNatClampNeg) else none
  | _ => none
def aQ (h : Hp) (a : Nat) (i : Int32) : Option Nat := match h[a]? with
  | some (.inl (t, (n, .inr (.inr (.inr (.inr f)))))) => if t = 2 ∧ ¬ (i < 0 ∨ n ≤ i.toNatClampNeg) then f i.toNatClampNeg else none
  | _ => none
def wI (h : Hp) (a : Nat) (i x : Int32) : Option Hp := match h[a]? with
  | some (.inl (t, (n, .inl f))) => if t = 0 ∧ ¬ (i < 0 ∨ n ≤ i.toNatClampNeg) then some (h.set a (.inl (t, (n, .inl (upd f i.toNatClampNeg x))))) else none
  | _ => none
def wJ (h : Hp) (a : Nat) (i : Int32) (x : Int64) : Option Hp := match h[a]? with
  | some (.inl (t, (n, .inr (.inl f)))) => if t = 1 ∧ ¬ (i < 0 ∨ n ≤ i.toNatClampNeg) then some (h.set a (.inl (t, (n, .inr (.inl (vp_updL f i.toNatClampNeg x)))))) else none
  | _ => none
def wQ (h : Hp) (a : Nat) (i : Int32) (x : Nat) : Option Hp := match h[a]? with
  | some (.inl (t, (n, .inr (.inr (.inr (.inr f)))))) => if t = 2 ∧ ¬ (i < 0 ∨ n ≤ i.toNatClampNeg) ∧ rc 2 h x = some () then some (h.set a (.inl (t, (n, .inr (.inr (.inr (.inr (va_up f i.toNatClampNeg (some x))))))))) else none
  | _ => none
theorem bsome {α β : Type} {a : Option α} {f : α → Option β} {b : β} (h : a.bind f = some b) : ∃ v, a = some v ∧ f v = some b := by
  cases a with
  | none => cases h
  | some v => exact ⟨v, rfl, h⟩
theorem rc_spec {ci : Nat} {h : Hp} {o : Nat} (e : rc ci h o = some ()) : ∃ fs, h[o]? = some (.inr (ci, fs)) := by
  unfold rc at e
  split at e
  · rename_i c fs e2
    split at e
    · rename_i ec
      exact ⟨fs, by rw [e2, ec]⟩
    · cases e
  · cases e
theorem fI_spec {ci k : Nat} {h : Hp} {o : Nat} {v : Int32} (e : fI ci k h o = some v) : ∃ fs, h[o]? = some (.inr (ci, fs)) ∧ fs[k]? = some (.int v) := by
  unfold fI at e
  split at e
  · rename_i c fs e2
    split at e
    · rename_i ec
      split at e
      · rename_i w e3
        cases e
        exact ⟨fs, by rw [e2, ec], e3⟩
      · cases e
    · cases e
  · cases e
theorem fJ_spec {ci k : Nat} {h : Hp} {o : Nat} {v : Int64} (e : fJ ci k h o = some v) : ∃ fs, h[o]? = some (.inr (ci, fs)) ∧ fs[k]? = some (.long v) := by
  unfold fJ at e
  split at e
  · rename_i c fs e2
    split at e
    · rename_i ec
      split at e
      · rename_i w e3
        cases e
        exact ⟨fs, by rw [e2, ec], e3⟩
      · cases e
    · cases e
  · cases e
theorem fR_spec {ci k : Nat} {h : Hp} {o v : Nat} (e : fR ci k h o = some v) : ∃ fs, h[o]? = some (.inr (ci, fs)) ∧ fs[k]? = some (.ref v) := by
  unfold fR at e
  split at e
  · rename_i c fs e2
    split at e
    · rename_i ec
      split at e
      · rename_i w e3
        cases e
        exact ⟨fs, by rw [e2, ec], e3⟩
      · cases e
    · cases e
  · cases e
theorem sF_spec {ci k : Nat} {v : Value} {h : Hp} {o : Nat} {h2 : Hp} (e : sF ci k v h o = some h2) : ∃ fs, h[o]? = some (.inr (ci, fs)) ∧ k < fs.length ∧ h2 = h.set o (.inr (ci, fs.set k v)) := by
  unfold sF at e
  split at e
  · rename_i c fs e2
    split at e
    · rename_i ec
      cases e
      exact ⟨fs, by rw [e2, ec.1], ec.2, by rw [ec.1]⟩
    · cases e
  · cases e
theorem aI_spec {h : Hp} {a : Nat} {i v : Int32} (e : aI h a i = some v) : ∃ n f, h[a]? = some (.inl (0, (n, .inl f))) ∧ vp_in i n ∧ f i.toNatClampNeg = v := by
  unfold aI at e
  split at e
  · rename_i t n f e2
    split at e
    · rename_i ec
      cases e
      exact ⟨n, f, by rw [e2, ec.1], ec.2, rfl⟩
    · cases e
  · cases e
theorem aJ_spec {h : Hp} {a : Nat} {i : Int32} {v : Int64} (e : aJ h a i = some v) : ∃ n f, h[a]? = some (.inl (1, (n, .inr (.inl f)))) ∧ vp_in i n ∧ f i.toNatClampNeg = v := by
  unfold aJ at e
  split at e
  · rename_i t n f e2
    split at e
    · rename_i ec
      cases e
      exact ⟨n, f, by rw [e2, ec.1], ec.2, rfl⟩
    · cases e
  · cases e
theorem aQ_spec {h : Hp} {a : Nat} {i : Int32} {v : Nat} (e : aQ h a i = some v) : ∃ n f, h[a]? = some (.inl (2, (n, .inr (.inr (.inr (.inr f)))))) ∧ vp_in i n ∧ f i.toNatClampNeg = some v := by
  unfold aQ at e
  split at e
  · rename_i t n f e2
    split at e
    · rename_i ec
      exact ⟨n, f, by rw [e2, ec.1], ec.2, e⟩
    · cases e
  · cases e
theorem wI_spec {h : Hp} {a : Nat} {i x : Int32} {h2 : Hp} (e : wI h a i x = some h2) : ∃ n f, h[a]? = some (.inl (0, (n, .inl f))) ∧ vp_in i n ∧ h2 = h.set a (.inl (0, (n, .inl (upd f i.toNatClampNeg x)))) := by
  unfold wI at e
  split at e
  · rename_i t n f e2
    split at e
    · rename_i ec
      cases e
      exact ⟨n, f, by rw [e2, ec.1], ec.2, by rw [ec.1]⟩
    · cases e
  · cases e
theorem wJ_spec {h : Hp} {a : Nat} {i : Int32} {x : Int64} {h2 : Hp} (e : wJ h a i x = some h2) : ∃ n f, h[a]? = some (.inl (1, (n, .inr (.inl f)))) ∧ vp_in i n ∧ h2 = h.set a (.inl (1, (n, .inr (.inl (vp_updL f i.toNatClampNeg x))))) := by
  unfold wJ at e
  split at e
  · rename_i t n f e2
    split at e
    · rename_i ec
      cases e
      exact ⟨n, f, by rw [e2, ec.1], ec.2, by rw [ec.1]⟩
    · cases e
  · cases e
theorem wQ_spec {h : Hp} {a : Nat} {i : Int32} {x : Nat} {h2 : Hp} (e : wQ h a i x = some h2) : ∃ n f fs, h[a]? = some (.inl (2, (n, .inr (.inr (.inr (.inr f)))))) ∧ vp_in i n ∧ h[x]? = some (.inr (2, fs)) ∧ h2 = h.set a (.inl (2, (n, .inr (.inr (.inr (.inr (va_up f i.toNatClampNeg (some x)))))))) := by
  unfold wQ at e
  split at e
  · rename_i t n f e2
    split at e
    · rename_i ec
      obtain ⟨fs, hfs⟩ := rc_spec ec.2.2
      cases e
      exact ⟨n, f, fs, by rw [e2, ec.1], ec.2.1, hfs, by rw [ec.1]⟩
    · cases e
  · cases e
section HeapRows
variable {g : GT} {Γ : CT} {cc : ByteArray} {own nm : String} {nL : Nat} {rt : Option FieldType} {lvl mc ms : Nat} {Q : State → Prop} {ce sl pc n : Nat} {lv : List (Nat × Value)} {st : List Value} {h : Hp} {β : Type} {X : β}
theorem Inv.get {ad : Nat → Nat} {H : Heap} {locs : List Loc} (I : Inv g Γ ad h H locs) {i : Nat} {c : va_E} (hi : h[i]? = some c) : (eW g ad h)[i]? = some (ad i, eE g ad c) := eW_get g ad hi
theorem Inv.set {ad : Nat → Nat} {H : Heap} {locs : List Loc} (I : Inv g Γ ad h H locs) {i : Nat} {c : va_E} {H1 : Heap} {locs1 : List Loc} (hc : wE h.length c) (hP : va_P g.D vwCl ((eW g ad h).set i (ad i, eE g ad c)) H1) (hD : va_D Γ.A ((eW g ad h).set i (ad i, eE g ad c))) (hS : va_S Γ.A Γ.s.heap H1 locs1) : Inv g Γ ad (h.set i c) H1 locs1 := by
  rw [← eW_set] at hP hD
  exact ⟨hP, hD, hS, wH_set I.2.2.2.1 i hc, by rw [List.length_set]; exact I.2.2.2.2.1, I.2.2.2.2.2⟩
theorem wH_obj (hw : wH h) {i ci k : Nat} {fs : List Value} {v : Value} (hi : h[i]? = some (.inr (ci, fs))) (hk : fs[k]? = some v) : wV h.length v := hw i _ hi v (List.mem_of_getElem? hk)
theorem U_getI (ci k : Nat) {o i : Nat} {F : Int32 → Option β} {K : String} {T : u_T} {N : Nat} (C : Cx g Γ cc own nm nL rt lvl mc ms) (d : decode cc pc = .ok (.getfield i, 3)) (hcl : vwCl[ci]? = some (K, T, N)) (hin : ∀ w ∈ u_ws K T N, w ∈ BW) (hk : k < N) (hl : Cond.fieldLink own i (T k).1 (T k).2.1 (T k).2.2.1 ∈ BW) (hf : (fI ci k h o).bind F = some X) (hn : pc + 3 = n) (kk : ∀ v, F v = some X → U g Γ nL Q ce sl n lv (.int v :: st) h) : U g Γ nL Q ce sl pc lv (.ref o :: st) h := by
  subst hn
  obtain ⟨v, e, hF⟩ := bsome hf
  obtain ⟨fs, e1, e2⟩ := fI_spec e
  intro ad H locs ls I hL hS hls
  exact va_get C.x C.b C.w hin C.o C.K I.1 o (Inv.get I e1) hcl k hk (C.w _ hl) (fun _ h9 => h9) (by rw [List.getElem?_map, e2]; rfl) d (kk v hF ad H locs ls I hL (wS_int (wS_tl hS)) hls)
theorem U_getIN (ci k : Nat) {o i : Nat} {F : Int32 → Option β} {K host : String} {T : u_T} {N : Nat} (C : Cx g Γ cc own nm nL rt lvl mc ms) (d : decode cc pc = .ok (.getfield i, 3)) (hcl : vwCl[ci]? = some (K, T, N)) (hin : ∀ w ∈ u_ws K T N, w ∈ BW) (hk : k < N) (hl : Cond.fieldLinkNest own i (T k).1 (T k).2.1 (T k).2.2.1 host ∈ NB) (hf : (fI ci k h o).bind F = some X) (hn : pc + 3 = n) (kk : ∀ v, F v = some X → U g Γ nL Q ce sl n lv (.int v :: st) h) : U g Γ nL Q ce sl pc lv (.ref o :: st) h := by
  subst hn
  obtain ⟨v, e, hF⟩ := bsome hf
  obtain ⟨fs, e1, e2⟩ := fI_spec e
  intro ad H locs ls I hL hS hls
  exact va_getN C.x C.b C.w hin C.o C.K I.1 o (Inv.get I e1) hcl k hk (C.nbw hl) (fun _ h9 => h9) (by rw [List.getElem?_map, e2]; rfl) d (kk v hF ad H locs ls I hL (wS_int (wS_tl hS)) hls)
theorem U_getJ (ci k : Nat) {o i : Nat} {F : Int64 → Option β} {K : String} {T : u_T} {N : Nat} (C : Cx g Γ cc own nm nL rt lvl mc ms) (d : decode cc pc = .ok (.getfield i, 3)) (hcl : vwCl[ci]? = some (K, T, N)) (hin : ∀ w ∈ u_ws K T N, w ∈ BW) (hk : k < N) (hl : Cond.fieldLink own i (T k).1 (T k).2.1 (T k).2.2.1 ∈ BW) (hf : (fJ ci k h o).bind F = some X) (hn : pc + 3 = n) (kk : ∀ v, F v = some X → U g Γ nL Q ce sl n lv (.long v :: st) h) : U g Γ nL Q ce sl pc lv (.ref o :: st) h := by
  subst hn
  obtain ⟨v, e, hF⟩ := bsome hf
  obtain ⟨fs, e1, e2⟩ := fJ_spec e
  intro ad H locs ls I hL hS hls
  exact va_get C.x C.b C.w hin C.o C.K I.1 o (Inv.get I e1) hcl k hk (C.w _ hl) (fun _ h9 => h9) (by rw [List.getElem?_map, e2]; rfl) d (kk v hF ad H locs ls I hL (wS_long (wS_tl hS)) hls)
theorem U_getR (ci k : Nat) {o i : Nat} {F : Nat → Option β} {K : String} {T : u_T} {N : Nat} (C : Cx g Γ cc own nm nL rt lvl mc ms) (d : decode cc pc = .ok (.getfield i, 3)) (hcl : vwCl[ci]? = some (K, T, N)) (hin : ∀ w ∈ u_ws K T N, w ∈ BW) (hk : k < N) (hl : Cond.fieldLink own i (T k).1 (T k).2.1 (T k).2.2.1 ∈ BW) (hf : (fR ci k h o).bind F = some X) (hn : pc + 3 = n) (kk : ∀ v, F v = some X → U g Γ nL Q ce sl n lv (.ref v :: st) h) : U g Γ nL Q ce sl pc lv (.ref o :: st) h := by
  subst hn
  obtain ⟨v, e, hF⟩ := bsome hf
  obtain ⟨fs, e1, e2⟩ := fR_spec e
  intro ad H locs ls I hL hS hls
  exact va_get C.x C.b C.w hin C.o C.K I.1 o (Inv.get I e1) hcl k hk (C.w _ hl) (fun _ h9 => h9) (by rw [List.getElem?_map, e2]; rfl) d (kk v hF ad H locs ls I hL (wS_cons (wH_obj I.2.2.2.1 e1 e2) (wS_tl hS)) hls)
theorem U_getRN (ci k : Nat) {o i : Nat} {F : Nat → Option β} {K host : String} {T : u_T} {N : Nat} (C : Cx g Γ cc own nm nL rt lvl mc ms) (d : decode cc pc = .ok (.getfield i, 3)) (hcl : vwCl[ci]? = some (K, T, N)) (hin : ∀ w ∈ u_ws K T N, w ∈ BW) (hk : k < N) (hl : Cond.fieldLinkNest own i (T k).1 (T k).2.1 (T k).2.2.1 host ∈ NB) (hf : (fR ci k h o).bind F = some X) (hn : pc + 3 = n) (kk : ∀ v, F v = some X → U g Γ nL Q ce sl n lv (.ref v :: st) h) : U g Γ nL Q ce sl pc lv (.ref o :: st) h := by
  subst hn
  obtain ⟨v, e, hF⟩ := bsome hf
  obtain ⟨fs, e1, e2⟩ := fR_spec e
  intro ad H locs ls I hL hS hls
  exact va_getN C.x C.b C.w hin C.o C.K I.1 o (Inv.get I e1) hcl k hk (C.nbw hl) (fun _ h9 => h9) (by rw [List.getElem?_map, e2]; rfl) d (kk v hF ad H locs ls I hL (wS_cons (wH_obj I.2.2.2.1 e1 e2) (wS_tl hS)) hls)
theorem eE_obj {ad : Nat → Nat} {ci : Nat} {fs : List Value} : eE g ad (.inr (ci, fs)) = .inr (ci, fs.map (eV g ad)) := rfl
theorem U_put (ci k : Nat) {o i : Nat} {v : Value} {ty : FieldType} {F : Hp → Option β} {K : String} {T : u_T} {N : Nat} {ty0 : Nat → FieldType} (C : Cx g Γ cc own nm nL rt lvl mc ms) (d : decode cc pc = .ok (.putfield i, 3)) (hcl : vwCl[ci]? = some (K, T, N)) (hin : ∀ w ∈ u_ws K T N, w ∈ BW) (hty : ∀ k, k < N → parseFieldDescriptor (T k).2.2.1 = some (ty0 k)) (hnm : ∀ a, a < N → ∀ b, b < N → a ≠ b → (T a).2.1 ≠ (T b).2.1) (hk : k < N) (hl : Cond.fieldLink own i (T k).1 (T k).2.1 (T k).2.2.1 ∈ BW) (hfin : (T k).2.2.2 = false ∨ (nm = "<init>" ∧ (T k).1 = own)) (hd : parseFieldDescriptor (T k).2.2.1 = some ty) (hnar : ∀ ad, narrow ty (eV g ad v) = eV g ad v) (hfit : ∀ ad, fits ty (eV g ad v) = true) (hf : (sF ci k v h o).bind F = some X) (hn : pc + 3 = n) (kk : ∀ h1, F h1 = some X → U g Γ nL Q ce sl n lv st h1) : U g Γ nL Q ce sl pc lv (v :: .ref o :: st) h := by
  subst hn
  obtain ⟨h1, e, hF⟩ := bsome hf
  obtain ⟨fs, e1, e2, rfl⟩ := sF_spec e
  intro ad H locs ls I hL hS hls
  have hwE : wE h.length (.inr (ci, fs.set k v)) := fun x hx => by
    rcases List.mem_or_eq_of_mem_set hx with hx | hx
    · exact I.2.2.2.1 o _ e1 x hx
    · rw [hx]; exact wS_hd hS
  have fin : ∀ (H1 : Heap) (locs1 : List Loc), va_P g.D vwCl ((eW g ad h).set o (ad o, .inr (ci, (fs.map (eV g ad)).set k (eV g ad v)))) H1 → va_D Γ.A ((eW g ad h).set o (ad o, .inr (ci, (fs.map (eV g ad)).set k (eV g ad v)))) → va_S Γ.A Γ.s.heap H1 locs1 → W Γ.p Γ.l Γ.e Γ.R Γ.s Γ.m Γ.args Γ.below Γ.meth Γ.c H1 locs1 ce sl Q (F0 Γ.m (pc + 3) ls (st.map (eV g ad))) := by
    intro H1 locs1 hP1 hD1 hS1
    rw [← List.map_set] at hP1 hD1
    refine kk _ hF ad H1 locs1 ls (Inv.set I hwE hP1 hD1 hS1) ?_ ?_ hls
    · rw [List.length_set]; exact hL
    · rw [List.length_set]; exact wS_tl (wS_tl hS)
  rcases hfin with hfin | ⟨hfin, hde⟩
  · by_cases hq : (T k).2.2.2 = false
    · exact va_put C.x C.b C.w hin ty0 hty hnm C.o C.K I.1 I.2.1 I.2.2.1 o (Inv.get I e1) hcl k hk (C.w _ hl) (fun _ h9 => h9) hq hd (hnar ad) (hfit ad) (by rw [List.length_map]; exact e2) d fin
    · exact absurd hfin hq
  · by_cases hq : (T k).2.2.2 = false
    · exact va_put C.x C.b C.w hin ty0 hty hnm C.o C.K I.1 I.2.1 I.2.2.1 o (Inv.get I e1) hcl k hk (C.w _ hl) (fun _ h9 => h9) hq hd (hnar ad) (hfit ad) (by rw [List.length_map]; exact e2) d fin
    · exact va_putF C.x C.b C.w hin ty0 hty hnm C.o C.K I.1 I.2.1 I.2.2.1 o (Inv.get I e1) hcl k hk (C.w _ hl) (fun _ h9 => h9) (by simpa using hq) (by rw [C.nme]; exact hfin) hde hd (hnar ad) (hfit ad) (by rw [List.length_map]; exact e2) d fin
theorem U_putN (ci k : Nat) {o i : Nat} {v : Value} {ty : FieldType} {F : Hp → Option β} {K host : String} {T : u_T} {N : Nat} {ty0 : Nat → FieldType} (C : Cx g Γ cc own nm nL rt lvl mc ms) (d : decode cc pc = .ok (.putfield i, 3)) (hcl : vwCl[ci]? = some (K, T, N)) (hin : ∀ w ∈ u_ws K T N, w ∈ BW) (hty : ∀ k, k < N → parseFieldDescriptor (T k).2.2.1 = some (ty0 k)) (hnm : ∀ a, a < N → ∀ b, b < N → a ≠ b → (T a).2.1 ≠ (T b).2.1) (hk : k < N) (hl : Cond.fieldLinkNest own i (T k).1 (T k).2.1 (T k).2.2.1 host ∈ NB) (hfin : (T k).2.2.2 = false) (hd : parseFieldDescriptor (T k).2.2.1 = some ty) (hnar : ∀ ad, narrow ty (eV g ad v) = eV g ad v) (hfit : ∀ ad, fits ty (eV g ad v) = true) (hf : (sF ci k v h o).bind F = some X) (hn : pc + 3 = n) (kk : ∀ h1, F h1 = some X → U g Γ nL Q ce sl n lv st h1) : U g Γ nL Q ce sl pc lv (v :: .ref o :: st) h := by
  subst hn
  obtain ⟨h1, e, hF⟩ := bsome hf
  obtain ⟨fs, e1, e2, rfl⟩ := sF_spec e
  intro ad H locs ls I hL hS hls
  have hwE : wE h.length (.inr (ci, fs.set k v)) := fun x hx => by
    rcases List.mem_or_eq_of_mem_set hx with hx | hx
    · exact I.2.2.2.1 o _ e1 x hx
    · rw [hx]; exact wS_hd hS
  refine va_putN C.x C.b C.w hin ty0 hty hnm C.o C.K I.1 I.2.1 I.2.2.1 o (Inv.get I e1) hcl k hk (C.nbw hl) (fun _ h9 => h9) hfin hd (hnar ad) (hfit ad) (by rw [List.length_map]; exact e2) d (fun H1 locs1 hP1 hD1 hS1 => ?_)
  rw [← List.map_set] at hP1 hD1
  refine kk _ hF ad H1 locs1 ls (Inv.set I hwE hP1 hD1 hS1) ?_ ?_ hls
  · rw [List.length_set]; exact hL
  · rw [List.length_set]; exact wS_tl (wS_tl hS)
theorem U_iald {a : Nat} {i : Int32} {F : Int32 → Option β} (C : Cx g Γ cc own nm nL rt lvl mc ms) (d : decode cc pc = .ok (.iaload, 1)) (hf : (aI h a i).bind F = some X) (hn : pc + 1 = n) (kk : ∀ v, F v = some X → U g Γ nL Q ce sl n lv (.int v :: st) h) : U g Γ nL Q ce sl pc lv (.int i :: .ref a :: st) h := by
  subst hn
  obtain ⟨v, e, hF⟩ := bsome hf
  obtain ⟨m, f, e1, e2, rfl⟩ := aI_spec e
  intro ad H locs ls I hL hS hls
  exact va_iald C.x C.b C.K I.1 a 0 (Inv.get I e1) rfl e2 d (kk _ hF ad H locs ls I hL (wS_int (wS_tl (wS_tl hS))) hls)
theorem U_lald {a : Nat} {i : Int32} {F : Int64 → Option β} (C : Cx g Γ cc own nm nL rt lvl mc ms) (d : decode cc pc = .ok (.laload, 1)) (hf : (aJ h a i).bind F = some X) (hn : pc + 1 = n) (kk : ∀ v, F v = some X → U g Γ nL Q ce sl n lv (.long v :: st) h) : U g Γ nL Q ce sl pc lv (.int i :: .ref a :: st) h := by
  subst hn
  obtain ⟨v, e, hF⟩ := bsome hf
  obtain ⟨m, f, e1, e2, rfl⟩ := aJ_spec e
  intro ad H locs ls I hL hS hls
  exact va_lald C.x C.b C.K I.1 a 1 (Inv.get I e1) rfl e2 d (kk _ hF ad H locs ls I hL (wS_long (wS_tl (wS_tl hS))) hls)
theorem U_aald {a : Nat} {i : Int32} {F : Nat → Option β} (C : Cx g Γ cc own nm nL rt lvl mc ms) (d : decode cc pc = .ok (.aaload, 1)) (hf : (aQ h a i).bind F = some X) (hn : pc + 1 = n) (kk : ∀ v, F v = some X → U g Γ nL Q ce sl n lv (.ref v :: st) h) : U g Γ nL Q ce sl pc lv (.int i :: .ref a :: st) h := by
  subst hn
  obtain ⟨v, e, hF⟩ := bsome hf
  obtain ⟨m, f, e1, e2, e3⟩ := aQ_spec e
  intro ad H locs ls I hL hS hls
  have hwv : v < h.length := I.2.2.2.1 a _ e1 _ _ e3
  refine va_aldq C.x C.b C.K I.1 a 2 (Inv.get I e1) rfl e2 d ?_
  show W _ _ _ _ _ _ _ _ _ _ _ _ _ _ _ (F0 _ _ _ (va_rf ((f i.toNatClampNeg).map ad) :: st.map (eV g ad)))
  rw [e3]
  exact kk _ hF ad H locs ls I hL (wS_cons hwv (wS_tl (wS_tl hS))) hls
theorem U_iast {a : Nat} {i x : Int32} {F : Hp → Option β} (C : Cx g Γ cc own nm nL rt lvl mc ms) (d : decode cc pc = .ok (.iastore, 1)) (hf : (wI h a i x).bind F = some X) (hn : pc + 1 = n) (kk : ∀ h1, F h1 = some X → U g Γ nL Q ce sl n lv st h1) : U g Γ nL Q ce sl pc lv (.int x :: .int i :: .ref a :: st) h := by
  subst hn
  obtain ⟨h1, e, hF⟩ := bsome hf
  obtain ⟨m, f, e1, e2, rfl⟩ := wI_spec e
  intro ad H locs ls I hL hS hls
  refine va_iast C.x C.b C.K I.1 I.2.1 I.2.2.1 a 0 (Inv.get I e1) rfl e2 d (fun H1 locs1 hP1 hD1 hS1 => ?_)
  refine kk _ hF ad H1 locs1 ls (Inv.set I trivial hP1 hD1 hS1) ?_ ?_ hls
  · rw [List.length_set]; exact hL
  · rw [List.length_set]; exact wS_tl (wS_tl (wS_tl hS))
theorem U_last {a : Nat} {i : Int32} {x : Int64} {F : Hp → Option β} (C : Cx g Γ cc own nm nL rt lvl mc ms) (d : decode cc pc = .ok (.lastore, 1)) (hf : (wJ h a i x).bind F = some X) (hn : pc + 1 = n) (kk : ∀ h1, F h1 = some X → U g Γ nL Q ce sl n lv st h1) : U g Γ nL Q ce sl pc lv (.long x :: .int i :: .ref a :: st) h := by
  subst hn
  obtain ⟨h1, e, hF⟩ := bsome hf
  obtain ⟨m, f, e1, e2, rfl⟩ := wJ_spec e
  intro ad H locs ls I hL hS hls
  refine va_last C.x C.b C.K I.1 I.2.1 I.2.2.1 a 1 (Inv.get I e1) rfl e2 d (fun H1 locs1 hP1 hD1 hS1 => ?_)
  refine kk _ hF ad H1 locs1 ls (Inv.set I trivial hP1 hD1 hS1) ?_ ?_ hls
  · rw [List.length_set]; exact hL
  · rw [List.length_set]; exact wS_tl (wS_tl (wS_tl hS))
theorem va_up_map {ad : Nat → Nat} (f : Nat → Option Nat) (k x : Nat) : (fun i => (va_up f k (some x) i).map ad) = va_up (fun i => (f i).map ad) k (some (ad x)) := by
  funext j
  by_cases hj : j = k <;> simp [va_up, hj]
theorem U_aast {a x : Nat} {i : Int32} {F : Hp → Option β} (C : Cx g Γ cc own nm nL rt lvl mc ms) (d : decode cc pc = .ok (.aastore, 1)) (hf : (wQ h a i x).bind F = some X) (hn : pc + 1 = n) (kk : ∀ h1, F h1 = some X → U g Γ nL Q ce sl n lv st h1) : U g Γ nL Q ce sl pc lv (.ref x :: .int i :: .ref a :: st) h := by
  subst hn
  obtain ⟨h1, e, hF⟩ := bsome hf
  obtain ⟨m, f, fs, e1, e2, e3, rfl⟩ := wQ_spec e
  intro ad H locs ls I hL hS hls
  refine va_astq (r := (RX2, TX2, 10)) C.x C.b C.K I.1 I.2.1 I.2.2.1 a 2 x 2 (Inv.get I e1) rfl (Inv.get I e3) rfl e2 d (fun H1 locs1 hP1 hD1 hS1 => ?_)
  rw [← va_up_map] at hP1 hD1
  have hwE : wE h.length (.inl (2, (m, .inr (.inr (.inr (.inr (va_up f i.toNatClampNeg (some x)))))))) := by
    intro j b hj
    have hj2 : va_up f i.toNatClampNeg (some x) j = some b := hj
    by_cases hjk : j = i.toNatClampNeg
    · rw [va_up, if_pos hjk] at hj2
      cases hj2
      exact wS_hd hS
    · rw [va_up, if_neg hjk] at hj2
      exact I.2.2.2.1 a _ e1 j b hj2
  refine kk _ hF ad H1 locs1 ls (Inv.set I hwE hP1 hD1 hS1) ?_ ?_ hls
  · rw [List.length_set]; exact hL
  · rw [List.length_set]; exact wS_tl (wS_tl (wS_tl hS))
end HeapRows
