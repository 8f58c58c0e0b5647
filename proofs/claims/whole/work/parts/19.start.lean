/-! THE CLAIM OUT OF ONE WALK OF THE LAW'S BODY. Your part is whole_start (and what it stands on); all else here is the same for every law, but numbers. -/
def R_law : String := "TripleSignsLaw"
def lw_P (b : Addr) (xs : List Int32) (args : Array Value) (s : State) : Prop := args = #[.ref b] ∧ s.IntsAt b xs ∧ xs.length ≤ 2560 ∧ (Jvm.Cond.and given_1 narrow_1).before args s = true
def lw_Q (_ : Array Value) (s : State) (o : Outcome) (t : State) : Prop := o = .returned (some (.int 1)) ∧ Framed s o t [] 601024 7293034
def lw_Z (below : List Frame) (a : Array Value) (s : State) : State → Prop := fun t => ∃ o, t.status = .running ∧ Ended t below o ∧ lw_Q a s o t
/-- the law's own end, with 1 on the stack, nothing written that was there before, its room as the claim has it -/
theorem lw_ret {p : Program} {l : Launch} {e : Env} {s : State} {m : MethodId} {below : List Frame} {meth : Method} {c : Code} {b : Nat} (hx : p.tables.exec = Jvm.exec) (hb : c.code = code) (hr : meth.sig.returnType = ret) (hlocks : meth.locks = false) {pc : Nat} {H : Heap} {ls : Array Slot} (hdg : decode code pc = .ok (.ireturn, 1)) : W p l e room_1 s m #[Value.ref b] below meth c H [] 601024 7293034 (lw_Z below #[Value.ref b] s) (F0 m pc ls [.int 1]) := by
  intro T hT X
  obtain ⟨fs, hret, hrun, hended, hW, hframe⟩ := X.leave (v := some (.int 1)) (hlocks := hlocks) (fun h => by rw [hr] at h; cases h)
  have hmeth' : T.vm.method? m = some meth := X.method'
  refine ⟨T.setFrames fs, ?_, .returned (some (.int 1)), hrun, hended, rfl, ⟨_, rfl⟩, hW, hframe⟩
  jvm_step X.here [X.here.top, hx, hb, hdg, hmeth', hr, ret, narrow_b1]
  (try refine ⟨rfl, ?_⟩); (try refine ⟨rfl, ?_⟩)
  first | (intro acts; rw [hret _ acts rfl rfl rfl]) | rw [hret _ _ rfl rfl rfl]
  exact Steps.refl _
/-- what holds at the law's entry: the machine, the code, the tables' words (any of lw_tbl by 'hts w (by decide +kernel)'), the script of L ints xs at the cell b, what the Statement gives of the start (any of its parts by flat_of_before) -/
def lw_At (p : Program) (s : State) (m : MethodId) (meth : Method) (c : Code) (b L : Nat) (xs : Nat → Int32) : Prop :=
  p.tables.exec = Jvm.exec ∧ c.code = code ∧ meth.sig.returnType = ret ∧ c.maxLocals = 8 ∧ s.vm.findClass R_law = some m.cls ∧ (∀ w ∈ lw_tbl, w.before #[Value.ref b] s = true) ∧ va_X b L xs s s.heap ∧ b < s.heap.size ∧ meth.locks = false ∧ (Jvm.Cond.and given_1 narrow_1).before #[Value.ref b] s = true
/-! the start: what the Statement gives, in the words of the rows -/
def tmS (i : Nat) : Term := .string RX1 ([72, 74, 76, 78, 80, 82].getD i 0)
section Start
variable {s : State} {b : Nat}
theorem fl_ex (hgv : (Jvm.Cond.and given_1 narrow_1).before #[Value.ref b] s = true) : ∀ i, i < 6 → (Cond.exactly (tmS i) "java/lang/String").before #[Value.ref b] s = true := by
  intro i hi
  have hs := flat_of_before _ hgv
  rcases (by omega : i = 0 ∨ i = 1 ∨ i = 2 ∨ i = 3 ∨ i = 4 ∨ i = 5) with rfl | rfl | rfl | rfl | rfl | rfl <;> exact hs _ (by decide +kernel)
theorem fl_co (hgv : (Jvm.Cond.and given_1 narrow_1).before #[Value.ref b] s = true) : ∀ i, i < 6 → (Cond.eq (.field (tmS i) "java/lang/String" "coder" "B") (.int 0)).before #[Value.ref b] s = true := by
  intro i hi
  have hs := flat_of_before _ hgv
  rcases (by omega : i = 0 ∨ i = 1 ∨ i = 2 ∨ i = 3 ∨ i = 4 ∨ i = 5) with rfl | rfl | rfl | rfl | rfl | rfl <;> exact hs _ (by decide +kernel)
theorem fl_ar (hgv : (Jvm.Cond.and given_1 narrow_1).before #[Value.ref b] s = true) : ∀ i, i < 6 → (Cond.arrayOf (.field (tmS i) "java/lang/String" "value" "[B") .byte).before #[Value.ref b] s = true := by
  intro i hi
  have hs := flat_of_before _ hgv
  rcases (by omega : i = 0 ∨ i = 1 ∨ i = 2 ∨ i = 3 ∨ i = 4 ∨ i = 5) with rfl | rfl | rfl | rfl | rfl | rfl <;> exact hs _ (by decide +kernel)
theorem fl_le (hgv : (Jvm.Cond.and given_1 narrow_1).before #[Value.ref b] s = true) : ∀ i, i < 6 → (Cond.eq (.length (.field (tmS i) "java/lang/String" "value" "[B")) (.int (Int32.ofNat (lenS.getD i 0)))).before #[Value.ref b] s = true := by
  intro i hi
  have hs := flat_of_before _ hgv
  rcases (by omega : i = 0 ∨ i = 1 ∨ i = 2 ∨ i = 3 ∨ i = 4 ∨ i = 5) with rfl | rfl | rfl | rfl | rfl | rfl <;> exact hs _ (by decide +kernel)
theorem fl_el (hgv : (Jvm.Cond.and given_1 narrow_1).before #[Value.ref b] s = true) : ∀ i, i < 6 → ∀ j, j < lenS.getD i 0 → (Cond.eq (.elem (.field (tmS i) "java/lang/String" "value" "[B") (.int (Int32.ofNat j))) (.int ((bytS.getD i []).getD j 0))).before #[Value.ref b] s = true := by
  intro i hi j hj
  have hs := flat_of_before _ hgv
  have hl := lenS_lt i hi
  rcases (by omega : i = 0 ∨ i = 1 ∨ i = 2 ∨ i = 3 ∨ i = 4 ∨ i = 5) with rfl | rfl | rfl | rfl | rfl | rfl <;> rcases (by omega : j = 0 ∨ j = 1 ∨ j = 2 ∨ j = 3 ∨ j = 4 ∨ j = 5) with rfl | rfl | rfl | rfl | rfl | rfl <;> first | exact absurd hj (by decide +kernel) | exact hs _ (by decide +kernel)
theorem st_arr {ty : FieldType} (h : (Cond.arrayClass ty).before #[Value.ref b] s = true) : ∃ cA, ArrOfT s cA ty ∧ s.vm.findClass ("[" ++ ty.toString) = some cA := by
  obtain ⟨cA, k, comp, h1, h2, h3⟩ := Cond.arrayClass_spec (show (Cond.arrayClass ty).holds #[Value.ref b] s none s [] = true from h)
  exact ⟨cA, fun n z => ⟨(fun k h => by cases h), k, h2, comp, h3⟩, h1⟩
theorem st_arrQ {C : String} (h : (Cond.arrayOver (.object C)).before #[Value.ref b] s = true) : ∃ cA, ArrOfT s cA (.object C) ∧ va_RA s cA (.object C) := by
  obtain ⟨comp, cA, k, h1, -, h2, h3, h4⟩ := Cond.arrayOver_spec (show (Cond.arrayOver (.object C)).holds #[Value.ref b] s none s [] = true from h)
  exact ⟨cA, fun n z => ⟨(fun k h => by cases h), k, h2, comp, h3⟩, k, comp, h2, h3, h1, h4⟩
theorem st_str {own tx : String} {k : Nat} (h1 : (Cond.stringRef own k tx).before #[Value.ref b] s = true) (h2 : (Cond.exactly (.string own k) "java/lang/String").before #[Value.ref b] s = true) : ∃ a, vk_R own k tx a s := by
  obtain ⟨a, c, cA, kA, q1, -⟩ := Cond.exactly_spec (args := #[Value.ref b]) (first := s) (o := none) (s := s) (idx := []) (t := .string own k) (cls := "java/lang/String") h2
  exact ⟨a, vk_R.of h1 q1⟩
theorem st_SR (hts : ∀ w ∈ lw_tbl, w.before #[Value.ref b] s = true) (hgv : (Jvm.Cond.and given_1 narrow_1).before #[Value.ref b] s = true) : ∀ q ∈ SR, ∃ a, vk_R q.1 q.2.1 q.2.2 a s := by
  have hs := flat_of_before _ hgv
  exact List.forall_mem_cons.mpr ⟨st_str (hts _ (List.mem_append_right _ (List.mem_of_getElem? (i := 625) (by decide +kernel)))) (hs _ (by decide +kernel)), List.forall_mem_cons.mpr ⟨st_str (hts _ (List.mem_append_right _ (List.mem_of_getElem? (i := 638) (by decide +kernel)))) (hs _ (by decide +kernel)), List.forall_mem_cons.mpr ⟨st_str (hts _ (List.mem_append_right _ (List.mem_of_getElem? (i := 656) (by decide +kernel)))) (hs _ (by decide +kernel)), List.forall_mem_cons.mpr ⟨st_str (hts _ (List.mem_append_right _ (List.mem_of_getElem? (i := 681) (by decide +kernel)))) (hs _ (by decide +kernel)), List.forall_mem_cons.mpr ⟨st_str (hts _ (List.mem_append_right _ (List.mem_of_getElem? (i := 527) (by decide +kernel)))) (hs _ (by decide +kernel)), List.forall_mem_cons.mpr ⟨st_str (hts _ (List.mem_append_right _ (List.mem_of_getElem? (i := 730) (by decide +kernel)))) (hs _ (by decide +kernel)), List.forall_mem_cons.mpr ⟨st_str (hts _ (List.mem_append_right _ (List.mem_of_getElem? (i := 746) (by decide +kernel)))) (hs _ (by decide +kernel)), List.forall_mem_cons.mpr ⟨st_str (hts _ (List.mem_append_right _ (List.mem_of_getElem? (i := 758) (by decide +kernel)))) (hs _ (by decide +kernel)), List.forall_mem_cons.mpr ⟨st_str (hts _ (List.mem_append_right _ (List.mem_of_getElem? (i := 774) (by decide +kernel)))) (hs _ (by decide +kernel)), List.forall_mem_cons.mpr ⟨st_str (hts _ (List.mem_append_right _ (List.mem_of_getElem? (i := 787) (by decide +kernel)))) (hs _ (by decide +kernel)), List.forall_mem_cons.mpr ⟨st_str (hts _ (List.mem_append_right _ (List.mem_of_getElem? (i := 788) (by decide +kernel)))) (hs _ (by decide +kernel)), List.forall_mem_cons.mpr ⟨st_str (hts _ (List.mem_append_right _ (List.mem_of_getElem? (i := 789) (by decide +kernel)))) (hs _ (by decide +kernel)), List.forall_mem_cons.mpr ⟨st_str (hts _ (List.mem_append_right _ (List.mem_of_getElem? (i := 817) (by decide +kernel)))) (hs _ (by decide +kernel)), List.forall_mem_cons.mpr ⟨st_str (hts _ (List.mem_append_right _ (List.mem_of_getElem? (i := 818) (by decide +kernel)))) (hs _ (by decide +kernel)), List.forall_mem_cons.mpr ⟨st_str (hts _ (List.mem_append_right _ (List.mem_of_getElem? (i := 826) (by decide +kernel)))) (hs _ (by decide +kernel)), List.forall_mem_cons.mpr ⟨st_str (hts _ (List.mem_append_right _ (List.mem_of_getElem? (i := 844) (by decide +kernel)))) (hs _ (by decide +kernel)), List.forall_mem_cons.mpr ⟨st_str (hts _ (List.mem_append_right _ (List.mem_of_getElem? (i := 603) (by decide +kernel)))) (hs _ (by decide +kernel)), List.forall_mem_cons.mpr ⟨st_str (hts _ (List.mem_append_right _ (List.mem_of_getElem? (i := 570) (by decide +kernel)))) (hs _ (by decide +kernel)), List.forall_mem_cons.mpr ⟨st_str (hts _ (List.mem_append_right _ (List.mem_of_getElem? (i := 590) (by decide +kernel)))) (hs _ (by decide +kernel)), List.forall_mem_cons.mpr ⟨st_str (hts _ (List.mem_append_right _ (List.mem_of_getElem? (i := 637) (by decide +kernel)))) (hs _ (by decide +kernel)), fun _ h => absurd h List.not_mem_nil⟩⟩⟩⟩⟩⟩⟩⟩⟩⟩⟩⟩⟩⟩⟩⟩⟩⟩⟩⟩
set_option maxHeartbeats 4000000 in
theorem ev_start (hts : ∀ w ∈ lw_tbl, w.before #[Value.ref b] s = true) (hgv : (Jvm.Cond.and given_1 narrow_1).before #[Value.ref b] s = true) : ∃ g : GT, g.b = b ∧ EvK g (fun q => s.heap.size ≤ q) s s.heap := by
  have hs := flat_of_before _ hgv
  have hA : ∀ a : Nat, a < s.heap.size → ¬ (fun q => s.heap.size ≤ q) a := fun a h => Nat.not_le.mpr h
  have hbw : ∀ w ∈ BW, w.before #[Value.ref b] s = true := fun w h => hts w (List.mem_filter.mp h).1
  obtain ⟨c0, i0, k0⟩ := u_known (C := RX0) (T := TX0) (N := 10) (n := 10) hbw inB_0 (hts _ (List.mem_append_right _ (List.mem_of_getElem? (i := 28) (by decide +kernel))))
  obtain ⟨c1, i1, k1⟩ := u_known (C := RX1) (T := TX1) (N := 5) (n := 5) hbw inB_1 (hts _ (List.mem_append_right _ (List.mem_of_getElem? (i := 117) (by decide +kernel))))
  obtain ⟨c2, i2, k2⟩ := u_known (C := RX2) (T := TX2) (N := 10) (n := 10) hbw inB_2 (hts _ (List.mem_append_right _ (List.mem_of_getElem? (i := 70) (by decide +kernel))))
  obtain ⟨c3, i3, k3⟩ := u_known (C := RX3) (T := TX3) (N := 12) (n := 12) hbw inB_3 (hts _ (List.mem_append_right _ (List.mem_of_getElem? (i := 20) (by decide +kernel))))
  obtain ⟨c4, i4, k4⟩ := u_known (C := RX4) (T := TX4) (N := 24) (n := 24) hbw inB_4 (hts _ (List.mem_append_right _ (List.mem_of_getElem? (i := 846) (by decide +kernel))))
  obtain ⟨cI, aI1, aI2⟩ := st_arr (b := b) (ty := .int) (hts _ (List.mem_append_right _ (List.mem_of_getElem? (i := 67) (by decide +kernel))))
  obtain ⟨cJ, aJ1, aJ2⟩ := st_arr (b := b) (ty := .long) (hts _ (List.mem_append_right _ (List.mem_of_getElem? (i := 68) (by decide +kernel))))
  have hov : (Cond.arrayOver (.object RX2)).before #[Value.ref b] s = true := (hts _ (List.mem_append_right _ (List.mem_of_getElem? (i := 142) (by decide +kernel))))
  obtain ⟨cQ, aQ1, aQ2⟩ := st_arrQ hov
  have h0 : ∀ i : Nat, ∃ q : Nat × Nat, i < 6 → (tmS i).eval #[Value.ref b] s none [] s = some (.ref q.1) ∧ va_O "java/lang/String" q.1 (fun q => s.heap.size ≤ q) s s.heap ∧ va_OF "java/lang/String" "coder" "B" (.int 0) q.1 (fun q => s.heap.size ≤ q) s s.heap ∧ va_OF "java/lang/String" "value" "[B" (.ref q.2) q.1 (fun q => s.heap.size ≤ q) s s.heap ∧ va_T .byte q.2 (lenS.getD i 0) (fun j => .int ((bytS.getD i []).getD j 0)) (fun q => s.heap.size ≤ q) s s.heap := by
    intro i
    by_cases hi : i < 6
    · obtain ⟨a, c, cA, kA, q1, q2, q3, q4, q5, q6, -⟩ := Cond.exactly_spec (args := #[Value.ref b]) (first := s) (o := none) (s := s) (idx := []) (t := tmS i) (cls := "java/lang/String") (fl_ex hgv i hi)
      have hl := lenS_lt i hi
      obtain ⟨t, ht, hT⟩ := va_Tof (f := fun j => .int ((bytS.getD i []).getD j 0)) (A := fun q => s.heap.size ≤ q) (by omega) (fl_ar hgv i hi) (va_eqt (fl_le hgv i hi)) (fun j hj => va_eqt (fl_el hgv i hi j hj)) hA
      exact ⟨(a, t), fun _ => ⟨q1, ⟨cA, q3, q5, by rw [q6]; exact q2, hA a (Array.getElem?_eq_some_iff.mp q3).1⟩, vk_OFof q1 (va_eqt (fl_co hgv i hi)) hA, vk_OFof q1 ht hA, hT⟩⟩
    · exact ⟨(0, 0), fun h => absurd h hi⟩
  obtain ⟨ad, had⟩ := Classical.axiomOfChoice h0
  have hZ := va_Zqof (C := "jdk/internal/util/Preconditions") (n := "SIOOBE_FORMATTER") (d := "Ljava/util/function/BiFunction;") (A := fun q => s.heap.size ≤ q) (hts _ (List.mem_append_right _ (List.mem_of_getElem? (i := 396) (by decide +kernel)))) (hbw _ in_RJ3) (hs _ (by decide +kernel)) hA
  obtain ⟨fv, hfv⟩ : ∃ fv : Option Nat, va_Z "jdk/internal/util/Preconditions" "SIOOBE_FORMATTER" "Ljava/util/function/BiFunction;" (va_rf fv) (fun q => s.heap.size ≤ q) s s.heap := by
    rcases hZ with h | ⟨t, h⟩
    · exact ⟨none, h⟩
    · exact ⟨some t, h⟩
  refine ⟨((fun k => [c0, c1, c2, c3, c4].getD k 0, fun k => [i0, i1, i2, i3, i4].getD k (fun _ => 0)), fun k => [cI, cJ, cQ].getD k 0, fun i => (ad i).1, fun i => (ad i).2, b, fv), rfl, ⟨fun k q hq => ?_, fun k q hq => ?_⟩, fun w hw => va_Nw.of (nb_tab (List.mem_filter.mp hw).2) (hts w (List.mem_append_right _ (List.mem_filter.mp hw).1)), st_SR hts hgv, ?_, va_AO.of hov, ?_, ?_, ?_, hfv, fun i hi => (had i hi).2, ?_, ?_, ?_⟩
  · match k, hq with
    | 0, hq => cases hq; exact k0
    | 1, hq => cases hq; exact k1
    | 2, hq => cases hq; exact k2
    | 3, hq => cases hq; exact k3
    | 4, hq => cases hq; exact k4
    | k + 5, hq => simp [vwCl] at hq
  · match k, hq with
    | 0, hq => cases hq; exact ⟨aI1, aI2⟩
    | 1, hq => cases hq; exact ⟨aJ1, aJ2⟩
    | 2, hq => cases hq; exact ⟨aQ1, aQ2⟩
    | k + 3, hq => simp [tys] at hq
  · exact List.forall_mem_cons.mpr ⟨vk_R.of (hts _ (List.mem_append_right _ (List.mem_of_getElem? (i := 361) (by decide +kernel)))) (had 0 (by decide)).1, List.forall_mem_cons.mpr ⟨vk_R.of (hts _ (List.mem_append_right _ (List.mem_of_getElem? (i := 362) (by decide +kernel)))) (had 1 (by decide)).1, List.forall_mem_cons.mpr ⟨vk_R.of (hts _ (List.mem_append_right _ (List.mem_of_getElem? (i := 363) (by decide +kernel)))) (had 2 (by decide)).1, List.forall_mem_cons.mpr ⟨vk_R.of (hts _ (List.mem_append_right _ (List.mem_of_getElem? (i := 364) (by decide +kernel)))) (had 3 (by decide)).1, List.forall_mem_cons.mpr ⟨vk_R.of (hts _ (List.mem_append_right _ (List.mem_of_getElem? (i := 365) (by decide +kernel)))) (had 4 (by decide)).1, List.forall_mem_cons.mpr ⟨vk_R.of (hts _ (List.mem_append_right _ (List.mem_of_getElem? (i := 366) (by decide +kernel)))) (had 5 (by decide)).1, fun _ h => absurd h List.not_mem_nil⟩⟩⟩⟩⟩⟩
  · exact vx_Zqof (hts _ (List.mem_append_right _ (List.mem_of_getElem? (i := 513) (by decide +kernel)))) (hts _ (List.mem_append_right _ (List.mem_of_getElem? (i := 7) (by decide +kernel)))) (hs _ (by decide +kernel)) hA
  · exact vx_Zqof (hts _ (List.mem_append_right _ (List.mem_of_getElem? (i := 515) (by decide +kernel)))) (hts _ (List.mem_append_right _ (List.mem_of_getElem? (i := 7) (by decide +kernel)))) (hs _ (by decide +kernel)) hA
  · exact va_Zof (hts _ (List.mem_append_right _ (List.mem_of_getElem? (i := 380) (by decide +kernel)))) (hbw _ in_RJ0) (va_eqt (hs (Cond.eq (.static "java/lang/String" "COMPACT_STRINGS" "Z") (.int 1)) (by decide +kernel))) hA
  · exact va_Nc.of (hs (Cond.not (.castable "java/lang/IllegalArgumentException" "java/lang/IndexOutOfBoundsException")) (by decide +kernel))
  · exact va_Nc.of (hs (Cond.not (.castable "java/lang/IllegalStateException" "java/lang/IndexOutOfBoundsException")) (by decide +kernel))
  · exact va_Nc.of (hs (Cond.not (.castable "java/lang/IllegalStateException" "java/lang/IllegalArgumentException")) (by decide +kernel))
end Start
theorem i32_5 {L j : Nat} (hL : L ≤ 2560) (hj : 5 * j ≤ 2570) : Int32.ofNat L - 5 < Int32.ofNat (5 * j) ↔ L < 5 * j + 5 := by
  have h1 : (Int32.ofNat L - 5).toInt = (L : Int) - 5 := by
    have e := pk_sub_toInt (a := L) (b := 5) (by omega) (by decide)
    exact e
  have h2 : (Int32.ofNat (5 * j)).toInt = ((5 * j : Nat) : Int) := nI_toInt (by omega)
  rw [Int32.lt_iff_toInt_lt, h1, h2]
  omega
section LawLoop
variable {nm : String} {g : GT} {Γ : CT} {Q : State → Prop} {L : Nat} {xs : Nat → Int32} {x m ot : Nat}
theorem law_loop {P : Hp → Prop} (C : Cx g Γ code RL nm 8 ret 2036 601024 7293034) (hX : Scr g Γ L xs) (hL : L ≤ 2560)
    (step : ∀ (j : Nat) (h : Hp), P h → 5 * j + 5 ≤ L → ∃ h2, f_body L xs x m ot (Int32.ofNat (5 * j)) h = some h2 ∧ P h2)
    (fin : ∀ (i : Int32) (h : Hp) (ce sl : Nat), ce ≤ 601024 → sl ≤ 7293034 → U g Γ 8 Q ce sl 1668 [(0, .retAddr 0), (1, .ref x), (2, .ref m), (3, .ref ot), (4, .int i)] [] h) :
    ∀ (n j : Nat) (h : Hp) (ce sl : Nat), j + n = 513 → P h → ce + n + 1 ≤ 601024 → sl + 6 * n + 6 ≤ 7293034 → U g Γ 8 Q ce sl 23 [(0, .retAddr 0), (1, .ref x), (2, .ref m), (3, .ref ot), (4, .int (Int32.ofNat (5 * j)))] [] h := by
  intro n
  induction n with
  | zero =>
    intro j h ce sl hj hP hc hs
    refine U_iload (n := 25) 4 C dL_law_23 rfl rfl ?_
    refine U_aload_n (n := 26) 0 C dL_law_25 rfl rfl rfl ?_
    refine U_sln (n := 27) C hX dL_law_26 rfl ?_
    refine U_iconst (n := 28) (5 : Int32) C dL_law_27 kiconst_5 rfl ?_
    refine U_isub (n := 29) C dL_law_28 rfl ?_
    refine U_icgt (tgt := 1668) (n := 32) C dL_law_29 (by decide) rfl (fun c => ?_) (fun c => absurd ((i32_5 hL (by omega)).mpr (by omega)) c)
    exact fin _ _ _ _ (by omega) (by omega)
  | succ n ih =>
    intro j h ce sl hj hP hc hs
    refine U_iload (n := 25) 4 C dL_law_23 rfl rfl ?_
    refine U_aload_n (n := 26) 0 C dL_law_25 rfl rfl rfl ?_
    refine U_sln (n := 27) C hX dL_law_26 rfl ?_
    refine U_iconst (n := 28) (5 : Int32) C dL_law_27 kiconst_5 rfl ?_
    refine U_isub (n := 29) C dL_law_28 rfl ?_
    refine U_icgt (tgt := 1668) (n := 32) C dL_law_29 (by decide) rfl (fun c => ?_) (fun c => ?_)
    · exact fin _ _ _ _ (by omega) (by omega)
    · have hlt : 5 * j + 5 ≤ L := by
        rcases Nat.lt_or_ge L (5 * j + 5) with q | q
        · exact absurd ((i32_5 hL (by omega)).mpr q) c
        · exact q
      obtain ⟨h2, e, hP2⟩ := step j h hP hlt
      refine K_body C hX (by omega) (by omega) e ?_
      have ej : Int32.ofNat (5 * j) + 5 = Int32.ofNat (5 * (j + 1)) := nI_add (5 * j) 5
      refine U_iinc (n := 1665) (v := Int32.ofNat (5 * (j + 1))) (lv2 := [(4, .int (Int32.ofNat (5 * (j + 1)))), (0, .retAddr 0), (1, .ref x), (2, .ref m), (3, .ref ot)]) 4 C dL_law_1662 rfl ej (by decide) rfl rfl ?_
      refine U_goto (n := 0) (tgt := 23) C dL_law_1665 (by decide) ?_
      exact U_lv [1, 2, 3, 4, 0] rfl (ih (j + 1) h2 _ _ (by omega) hP2 (by omega) (by omega))
end LawLoop
set_option maxHeartbeats 4000000 in
/-- the whole, when the functions keep P -/
theorem whole_open {P : Nat → Nat → Nat → Hp → Prop} (hst : ∃ x m ot h, f_start = some (x, m, ot, h) ∧ P x m ot h)
    (hstep : ∀ (L : Nat) (xs : Nat → Int32) (x m ot : Nat) (j : Nat) (h : Hp), P x m ot h → L ≤ 2560 → 5 * j + 5 ≤ L → ∃ h2, f_body L xs x m ot (Int32.ofNat (5 * j)) h = some h2 ∧ P x m ot h2)
    {p : Program} {e : Env} {s : State} {m : MethodId} {below : List Frame} {meth : Method} {c : Code} (l : Launch) (hflags : l.flags = flags0) {b L : Nat} {xs : Nat → Int32} (hL : L ≤ 2560) (C0 : lw_At p s m meth c b L xs) : W p l e room_1 s m #[Value.ref b] below meth c s.heap [] 0 0 (lw_Z below #[Value.ref b] s) (entryFrame m ([Value.ref b] : List Value).toArray 8) := by
  obtain ⟨hx, hb, hr, hml, hown, hts, hX, hbl, hlocks, hgv⟩ := id C0
  obtain ⟨g, hg, hev⟩ := ev_start hts hgv
  have hst2 : l.stackTraces = false := by
    show (!l.flags.contains noTraceFlag) = false
    rw [hflags]; decide +kernel
  have C : Cx g ((p, l, e, room_1, s, m, #[Value.ref b], below, meth, c, (fun q : Nat => s.heap.size ≤ q), 0, (fun q : Nat => q)) : CT) code RL meth.name 8 ret 2036 601024 7293034 :=
    ⟨hx, hb, hml, hown, fun w hw => hts w (List.mem_filter.mp hw).1, hlocks, hr, hst2, fun q hq => hq, hev, ⟨by show 2036 + 12 ≤ 2048; decide, Nat.le_refl _, Nat.le_refl _, by show 40 * 2036 + 200 ≤ 84000; decide⟩, rfl, Or.inl rfl⟩
  have hX2 : Scr g ((p, l, e, room_1, s, m, #[Value.ref b], below, meth, c, (fun q : Nat => s.heap.size ≤ q), 0, (fun q : Nat => q)) : CT) L xs := by
    refine ⟨by rw [hg]; exact hX, by rw [hg]; exact hbl, by rw [hg]; exact Nat.not_le.mpr hbl⟩
  obtain ⟨x0, m0, ot, h0, e0, hP0⟩ := hst
  have K : U g ((p, l, e, room_1, s, m, #[Value.ref b], below, meth, c, (fun q : Nat => s.heap.size ≤ q), 0, (fun q : Nat => q)) : CT) 8 (lw_Z below #[Value.ref b] s) 0 0 0 [(0, .retAddr 0)] [] [] := by
    refine K_start C e0 ?_
    refine law_loop (P := P x0 m0 ot) C hX2 hL (fun j h hP hj => hstep L xs x0 m0 ot j h hP hL hj) (fun i h ce sl hc hs => ?_) 513 0 h0 78 11543 rfl hP0 (by decide) (by decide)
    refine U_iconst (n := 1669) (1 : Int32) C dL_law_1668 kiconst_1 rfl ?_
    intro ad H locs ls I hwl hws hls
    refine va_forget (fun q hq => I.2.2.1.2.2 q hq) ?_
    refine W.widen hc hs ?_
    exact lw_ret hx hb hr hlocks dL_law_1669
  have hle := lv_entry ([.ref b]) (n := 8) (Nat.le_of_ble_eq_true rfl)
  rw [lg_entry_eq]
  have hl2 : lv_has ((lg_sl [Value.ref b] ++ List.replicate (8 - (lg_sl [Value.ref b]).length) Slot.unset).toArray) 8 ([(0, Value.retAddr 0)].map fun q => (q.1, eV g (fun q => q) q.2)) := by
    have ee : ([(0, Value.retAddr 0)].map fun q => (q.1, eV g (fun q => q) q.2)) = [(0, Value.ref b)] := by
      show [(0, Value.ref g.b)] = _
      rw [hg]
    rw [ee]
    exact hle
  exact K (fun q => q) s.heap [] _ ⟨fun k q h => by simp [eW] at h, ⟨fun i j p q h => by simp [eW] at h, fun k q h => by simp [eW] at h⟩, va_S.rf, fun i c h => by simp at h, Nat.le_refl _, fun _ _ => rfl⟩ (fun q hq => by rw [List.mem_singleton.mp hq]; trivial) wS_nil hl2
