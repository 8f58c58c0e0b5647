/-! tools for the pure level -/
theorem FUx {n : Nat} (h : n < 4000000) : n < FU := h
/-- a loop that counts up -/
theorem loopR {α β : Type} (L : Nat → α → Option β) (Inv : Nat → α → Prop) (Q : β → Prop) (hi : Nat)
    (step : ∀ k a fuel, k < hi → Inv k a → (∃ a', L (fuel + 1) a = L fuel a' ∧ Inv (k + 1) a') ∨ (∃ b, L (fuel + 1) a = some b ∧ Q b))
    (stop : ∀ a fuel, Inv hi a → ∃ b, L (fuel + 1) a = some b ∧ Q b) :
    ∀ (r k : Nat) (a : α) (fuel : Nat), k + r = hi → r < fuel → Inv k a → ∃ b, L fuel a = some b ∧ Q b := by
  intro r
  induction r with
  | zero =>
    intro k a fuel hk hf hI
    obtain ⟨f, rfl⟩ : ∃ f, fuel = f + 1 := ⟨fuel - 1, by omega⟩
    exact stop a f (by have e : k = hi := by omega
                       rw [← e]; exact hI)
  | succ r ih =>
    intro k a fuel hk hf hI
    obtain ⟨f, rfl⟩ : ∃ f, fuel = f + 1 := ⟨fuel - 1, by omega⟩
    rcases step k a f (by omega) hI with ⟨a', e, hI'⟩ | ⟨b, e, hQ⟩
    · rw [e]
      exact ih (k + 1) a' f (by omega) (by omega) hI'
    · exact ⟨b, e, hQ⟩
/-- how many numbers under a bound have a property -/
def cntN (p : Nat → Prop) [DecidablePred p] : Nat → Nat
  | 0 => 0
  | n + 1 => if p n then cntN p n + 1 else cntN p n
theorem cntN_le (p : Nat → Prop) [DecidablePred p] : ∀ n, cntN p n ≤ n := by
  intro n
  induction n with
  | zero => exact Nat.le_refl 0
  | succ n ih =>
    unfold cntN
    split <;> omega
theorem cntN_cg (p q : Nat → Prop) [DecidablePred p] [DecidablePred q] : ∀ n, (∀ k, k < n → (p k ↔ q k)) → cntN p n = cntN q n := by
  intro n
  induction n with
  | zero => intro _; rfl
  | succ n ih =>
    intro h
    unfold cntN
    rw [ih (fun k hk => h k (by omega))]
    by_cases c : p n
    · rw [if_pos c, if_pos ((h n (by omega)).mp c)]
    · rw [if_neg c, if_neg (fun c2 => c ((h n (by omega)).mpr c2))]
/-- cells that are not named stay -/
def Fr (c : Nat → Prop) (m m1 : Mem) : Prop := (∀ a, ¬ c a → m1.I a = m.I a ∧ m1.J a = m.J a) ∧ m1.V = m.V
theorem Fr_rf (c : Nat → Prop) (m : Mem) : Fr c m m := ⟨fun _ _ => ⟨rfl, rfl⟩, rfl⟩
theorem Fr_tr {c : Nat → Prop} {m m1 m2 : Mem} (h : Fr c m m1) (h2 : Fr c m1 m2) : Fr c m m2 := ⟨fun a ha => ⟨((h2.1 a ha).1).trans (h.1 a ha).1, ((h2.1 a ha).2).trans (h.1 a ha).2⟩, h2.2.trans h.2⟩
theorem Fr_w {c d : Nat → Prop} {m m1 : Mem} (h : Fr c m m1) (hd : ∀ a, c a → d a) : Fr d m m1 := ⟨fun a ha => h.1 a (fun hc => ha (hd a hc)), h.2⟩
theorem Fr_sI {c : Nat → Prop} {m m1 : Mem} (h : Fr c m m1) {a k : Nat} {x : Int32} (ha : c a) : Fr c m (m1.sI a k x) := ⟨fun b hb => ⟨by
  rw [sI_I, if_neg (fun e => hb (by rw [e]; exact ha))]
  exact (h.1 b hb).1, (h.1 b hb).2⟩, h.2⟩
theorem Fr_sJ {c : Nat → Prop} {m m1 : Mem} (h : Fr c m m1) {a k : Nat} {x : Int64} (ha : c a) : Fr c m (m1.sJ a k x) := ⟨fun b hb => ⟨(h.1 b hb).1, by
  rw [sJ_J, if_neg (fun e => hb (by rw [e]; exact ha))]
  exact (h.1 b hb).2⟩, h.2⟩
/-! rows of the reference -/
def clr (t : Nat) (s : Nat → Int32) : Nat → Int32 := upd (upd (upd (upd s (3 + 4 * t) (-100)) (3 + 4 * t + 1) 0) (3 + 4 * t + 2) (-100)) (3 + 4 * t + 3) (-100)
def gvn (t : Nat) (v : Int32) (s : Nat → Int32) : Nat → Int32 := upd (upd (clr t s) (3 + 4 * t) v) (3 + 4 * t + 1) 1
def drv (t : Nat) (v r st : Int32) (s : Nat → Int32) : Nat → Int32 := upd (upd (upd (upd s (3 + 4 * t) v) (3 + 4 * t + 1) 2) (3 + 4 * t + 2) r) (3 + 4 * t + 3) st
/-- derived ones under a bound become unknown -/
def frg (s : Nat → Int32) : Nat → Nat → Int32
  | 0 => s
  | n + 1 => if (frg s n) (3 + 4 * n + 1) = 2 then clr n (frg s n) else frg s n
/-- a state's cells and a row -/
def RS (b : Nat) (m : Mem) (s : Nat → Int32) (M : Nat → Int64) : Prop :=
  m.I b 0 = s 0 ∧ m.I b 1 = s 1 ∧ m.I b 2 = s 2 ∧ (∀ t, t < 56 → m.I (b + 1) t = s (3 + 4 * t) ∧ m.I (b + 2) t = s (3 + 4 * t + 1) ∧ m.I (b + 3) t = s (3 + 4 * t + 2) ∧ m.I (b + 4) t = s (3 + 4 * t + 3) ∧ m.J (b + 5) t = M t) ∧ ∀ p, p < 8 → m.I (b + 6) p = s (227 + 2 * p) ∧ m.I (b + 7) p = s (227 + 2 * p + 1)
section Rows
variable {s : Nat → Int32} {t u : Nat}
theorem upd_g (f : Nat → Int32) (k j : Nat) (x : Int32) : upd f k x j = if j = k then x else f j := by
  by_cases c : j = k
  · rw [if_pos c, c, pk_us]
  · rw [if_neg c, pk_un c]
theorem updL_g (f : Nat → Int64) (k j : Nat) (x : Int64) : vp_updL f k x j = if j = k then x else f j := by
  by_cases c : j = k
  · rw [if_pos c, c, pk_uLs]
  · rw [if_neg c, pk_uLn c]
theorem clr_g (k : Nat) : clr t s k = if k = 3 + 4 * t ∨ k = 3 + 4 * t + 2 ∨ k = 3 + 4 * t + 3 then -100 else if k = 3 + 4 * t + 1 then 0 else s k := by
  simp only [clr, upd_g]
  (repeat' split) <;> first | rfl | omega
theorem gvn_g (v : Int32) (k : Nat) : gvn t v s k = if k = 3 + 4 * t then v else if k = 3 + 4 * t + 1 then 1 else if k = 3 + 4 * t + 2 ∨ k = 3 + 4 * t + 3 then -100 else s k := by
  simp only [gvn, clr, upd_g]
  (repeat' split) <;> first | rfl | omega
theorem drv_g (v r st : Int32) (k : Nat) : drv t v r st s k = if k = 3 + 4 * t then v else if k = 3 + 4 * t + 1 then 2 else if k = 3 + 4 * t + 2 then r else if k = 3 + 4 * t + 3 then st else s k := by
  simp only [drv, upd_g]
  (repeat' split) <;> first | rfl | omega
end Rows
