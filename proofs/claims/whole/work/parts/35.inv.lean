/-! the whole picture: the class's cells, the reference's cells, and what holds of a state -/
def bitT (t : Nat) : Int64 := (1 : Int64) <<< ((nI t).toInt64 &&& 63)
def orF (f : Nat → Int64) : Nat → Int64
  | 0 => 0
  | k + 1 => orF f k ||| f k
theorem orF_s (f : Nat → Int64) (k : Nat) : orF f (k + 1) = orF f k ||| f k := rfl
theorem orF_cg {f g : Nat → Int64} : ∀ k, (∀ w, w < k → f w = g w) → orF f k = orF g k := by
  intro k
  induction k with
  | zero => intro _; rfl
  | succ k ih =>
    intro h
    rw [orF_s, orF_s, ih (fun w hw => h w (by omega)), h k (by omega)]
/-- a triple in a state that holds together -/
def G0 (s : Nat → Int32) (M : Nat → Int64) (t : Nat) : Prop := s (3 + 4 * t + 1) = 0 ∧ s (3 + 4 * t) = -100 ∧ s (3 + 4 * t + 3) = -100 ∧ M t = 0
def G1 (n : Nat) (s : Nat → Int32) (M : Nat → Int64) (t : Nat) : Prop := t < nT n ∧ s (3 + 4 * t + 1) = 1 ∧ ok3 (s (3 + 4 * t)) ∧ s (3 + 4 * t + 3) = -100 ∧ M t = bitT t
def G2 (n : Nat) (s : Nat → Int32) (M : Nat → Int64) (t r st : Nat) : Prop := t < nT n ∧ s (3 + 4 * t + 1) = 2 ∧ ok3 (s (3 + 4 * t)) ∧ r < nR n ∧ s (3 + 4 * t + 2) = nI r ∧ s (3 + 4 * t + 3) = nI st ∧ 1 ≤ st ∧ st ≤ many s 2 (nT n) ∧
  M t = orF (fun w => if fac n r w = t then 0 else M (fac n r w)) 6 ∧
  ∀ w, w < 6 → fac n r w = t ∨ s (3 + 4 * fac n r w + 1) = 1 ∨ (s (3 + 4 * fac n r w + 1) = 2 ∧ ∃ q, s (3 + 4 * fac n r w + 3) = nI q ∧ q < st)
def gTr (n : Nat) (s : Nat → Int32) (M : Nat → Int64) (t : Nat) : Prop := G0 s M t ∨ G1 n s M t ∨ ∃ r st, G2 n s M t r st
def GG (n : Nat) (s : Nat → Int32) (M : Nat → Int64) : Prop := n38 n ∧ s 0 = nI n ∧ (s 1 = 0 ∨ s 1 = 1) ∧ ∀ t, t < 56 → gTr n s M t
/-- the class -/
def LZ (m : Mem) : Prop := ∀ i j k, i < 8 → j < 8 → k < 8 → (i = j ∨ i = k ∨ j = k) → m.I 4 ((i * 8 + j) * 8 + k) = 0
def CC (n : Nat) (s : Nat → Int32) (M : Nat → Int64) (q : Nat) (P : Nat → Nat → Int32) (PM : Nat → Nat → Int64) (tl : Nat) (tx : Nat → Int32) (m : Mem) : Prop :=
  LC n m ∧ LZ m ∧ RS 9 m s M ∧ m.I 0 4 = nI q ∧ vperm m.V ∧ (∀ i, i < q → RS (m.V i) m (P i) (PM i)) ∧ m.I 17 1 = nI tl ∧ ∀ k, k < tl → m.I 18 k = tx k
/-- the reference -/
def DD (n : Nat) (s : Nat → Int32) (q : Nat) (P : Nat → Nat → Int32) (tl : Nat) (tx : Nat → Int32) (m : Mem) : Prop :=
  LM n m ∧ m.I 62 = s ∧ m.I 61 3 = nI q ∧ (∀ i k, i < q → k < 243 → m.I 63 (243 * i + k) = P i k) ∧ m.I 61 5 = nI tl ∧ ∀ k, k < tl → m.I 65 k = tx k
def INV (m : Mem) : Prop := ∃ n s M q P PM tl tx, CC n s M q P PM tl tx m ∧ DD n s q P tl tx m ∧ GG n s M ∧ q ≤ 4 ∧ (∀ i, i < q → ∃ ni, GG ni (P i) (PM i)) ∧ tl ≤ 120 ∧ ∀ k, k < tl → 0 ≤ tx k ∧ tx k ≤ 127
/-- the class was at work; the reference was at work -/
def upC (m m1 : Mem) : Prop := ∀ a, 61 ≤ a → m1.I a = m.I a ∧ m1.J a = m.J a
def upM (m m1 : Mem) : Prop := (∀ a, a < 61 ∨ a = 77 → m1.I a = m.I a ∧ m1.J a = m.J a) ∧ m1.V = m.V
def loM (m m1 : Mem) : Prop := (∀ a, a < 61 → m1.I a = m.I a ∧ m1.J a = m.J a) ∧ m1.V = m.V
theorem upM_lo {m m1 : Mem} (u : upM m m1) : loM m m1 := ⟨fun a ha => u.1 a (Or.inl ha), u.2⟩
theorem upC_rf (m : Mem) : upC m m := fun _ _ => ⟨rfl, rfl⟩
theorem upM_rf (m : Mem) : upM m m := ⟨fun _ _ => ⟨rfl, rfl⟩, rfl⟩
theorem upC_tr {m m1 m2 : Mem} (h : upC m m1) (h2 : upC m1 m2) : upC m m2 := fun a ha => ⟨((h2 a ha).1).trans (h a ha).1, ((h2 a ha).2).trans (h a ha).2⟩
theorem upM_tr {m m1 m2 : Mem} (h : upM m m1) (h2 : upM m1 m2) : upM m m2 := ⟨fun a ha => ⟨((h2.1 a ha).1).trans (h.1 a ha).1, ((h2.1 a ha).2).trans (h.1 a ha).2⟩, h2.2.trans h.2⟩
theorem upC_fr {c : Nat → Prop} {m m1 : Mem} (f : Fr c m m1) (hc : ∀ a, c a → a < 61) : upC m m1 := fun a ha => f.1 a (fun h => by have := hc a h; omega)
theorem upM_fr {c : Nat → Prop} {m m1 : Mem} (f : Fr c m m1) (hc : ∀ a, c a → 61 ≤ a ∧ a ≠ 77) : upM m m1 := ⟨fun a ha => f.1 a (fun h => by have := hc a h; omega), f.2⟩
theorem upC_9 {m m1 : Mem} (f : Fr (cS 9) m m1) : upC m m1 := upC_fr f (fun a h => by unfold cS at h; omega)
theorem LC_of {n : Nat} {m m1 : Mem} (h : LC n m) (e : ∀ a, 1 ≤ a → a ≤ 8 → m1.I a = m.I a ∧ m1.J a = m.J a) : LC n m1 := by
  unfold LC
  rw [(e 1 (by omega) (by omega)).1, (e 2 (by omega) (by omega)).1, (e 3 (by omega) (by omega)).1, (e 4 (by omega) (by omega)).1, (e 5 (by omega) (by omega)).1, (e 6 (by omega) (by omega)).1, (e 7 (by omega) (by omega)).1, (e 8 (by omega) (by omega)).2]
  exact h
theorem RS_of {b : Nat} {m m1 : Mem} {s : Nat → Int32} {M : Nat → Int64} (h : RS b m s M) (e : ∀ a, cS b a → m1.I a = m.I a ∧ m1.J a = m.J a) : RS b m1 s M := by
  have g : ∀ q, q < 8 → m1.I (b + q) = m.I (b + q) := fun q hq => (e (b + q) ⟨by omega, by omega⟩).1
  have e0 := g 0 (by omega)
  rw [Nat.add_zero] at e0
  unfold RS
  rw [e0, g 1 (by omega), g 2 (by omega), g 3 (by omega), g 4 (by omega), (e (b + 5) ⟨by omega, by omega⟩).2, g 6 (by omega), g 7 (by omega)]
  exact h
theorem vS_lt {x a : Nat} (h : vS x) (ha : cS x a) : 29 ≤ a ∧ a < 61 := by
  unfold cS at ha
  rcases h with e | e | e | e <;> rw [e] at ha <;> omega
section Pic
variable {n : Nat} {s s' : Nat → Int32} {M M' : Nat → Int64} {q : Nat} {P : Nat → Nat → Int32} {PM : Nat → Nat → Int64} {tl : Nat} {tx : Nat → Int32} {m m1 : Mem}
theorem CC_lo (h : CC n s M q P PM tl tx m) (u : loM m m1) (hq : q ≤ 4) : CC n s M q P PM tl tx m1 := by
  obtain ⟨h1, h2, h3, h4, h5, h6, h7, h8⟩ := h
  refine ⟨LC_of h1 (fun a _ hb => u.1 a (by omega)), ?_, RS_of h3 (fun a ha => u.1 a (by unfold cS at ha; omega)), ?_, ?_, ?_, ?_, ?_⟩
  · unfold LZ
    rw [(u.1 4 (by omega)).1]
    exact h2
  · rw [(u.1 0 (by omega)).1]
    exact h4
  · rw [u.2]
    exact h5
  · intro i hi
    rw [u.2]
    exact RS_of (h6 i hi) (fun a ha => u.1 a (vS_lt (h5.1 i (by omega)) ha).2)
  · rw [(u.1 17 (by omega)).1]
    exact h7
  · rw [(u.1 18 (by omega)).1]
    exact h8
theorem CC_up (h : CC n s M q P PM tl tx m) (u : upM m m1) (hq : q ≤ 4) : CC n s M q P PM tl tx m1 := CC_lo h (upM_lo u) hq
theorem DD_up (h : DD n s q P tl tx m) (u : upC m m1) : DD n s q P tl tx m1 := by
  unfold DD LM
  rw [(u 61 (by omega)).1, (u 62 (by omega)).1, (u 63 (by omega)).1, (u 65 (by omega)).1, (u 66 (by omega)).1, (u 67 (by omega)).1, (u 68 (by omega)).1]
  exact h
/-- the state of now is another -/
theorem CC_now (h : CC n s M q P PM tl tx m) (hq : q ≤ 4) (f : Fr (cS 9) m m1) (r : RS 9 m1 s' M') : CC n s' M' q P PM tl tx m1 := by
  obtain ⟨h1, h2, h3, h4, h5, h6, h7, h8⟩ := h
  have u : ∀ a, ¬ cS 9 a → m1.I a = m.I a ∧ m1.J a = m.J a := f.1
  refine ⟨LC_of h1 (fun a _ hb => u a (by unfold cS; omega)), ?_, r, ?_, ?_, ?_, ?_, ?_⟩
  · unfold LZ
    rw [(u 4 (by unfold cS; omega)).1]
    exact h2
  · rw [(u 0 (by unfold cS; omega)).1]
    exact h4
  · rw [f.2]
    exact h5
  · intro i hi
    rw [f.2]
    exact RS_of (h6 i hi) (fun a ha => u a (by have := vS_lt (h5.1 i (by omega)) ha; unfold cS; omega))
  · rw [(u 17 (by unfold cS; omega)).1]
    exact h7
  · rw [(u 18 (by unfold cS; omega)).1]
    exact h8
/-- the class's scratch rows -/
def cX (a : Nat) : Prop := 22 ≤ a ∧ a ≤ 28
theorem CC_scr (h : CC n s M q P PM tl tx m) (hq : q ≤ 4) (f : Fr cX m m1) : CC n s M q P PM tl tx m1 := by
  obtain ⟨h1, h2, h3, h4, h5, h6, h7, h8⟩ := h
  have u : ∀ a, ¬ cX a → m1.I a = m.I a ∧ m1.J a = m.J a := f.1
  refine ⟨LC_of h1 (fun a _ hb => u a (by unfold cX; omega)), ?_, RS_of h3 (fun a ha => u a (by unfold cS at ha; unfold cX; omega)), ?_, ?_, ?_, ?_, ?_⟩
  · unfold LZ
    rw [(u 4 (by unfold cX; omega)).1]
    exact h2
  · rw [(u 0 (by unfold cX; omega)).1]
    exact h4
  · rw [f.2]
    exact h5
  · intro i hi
    rw [f.2]
    exact RS_of (h6 i hi) (fun a ha => u a (by have := vS_lt (h5.1 i (by omega)) ha; unfold cX; omega))
  · rw [(u 17 (by unfold cX; omega)).1]
    exact h7
  · rw [(u 18 (by unfold cX; omega)).1]
    exact h8
/-- the reference's picture, its row being another -/
theorem DD_w (h : DD n s q P tl tx m) (e : ∀ k, k = 3 ∨ k = 5 ∨ k = 9 ∨ k = 11 → m1.I 61 k = m.I 61 k) (e2 : ∀ a, 63 ≤ a → a ≤ 68 → a ≠ 64 → m1.I a = m.I a) (er : m1.I 62 = s') : DD n s' q P tl tx m1 := by
  obtain ⟨h1, h2, h3, h4, h5, h6⟩ := h
  refine ⟨LM_fr h1 (e 9 (by omega)) (e 11 (by omega)) (e2 66 (by omega) (by omega) (by omega)) (e2 67 (by omega) (by omega) (by omega)) (e2 68 (by omega) (by omega) (by omega)), er, ?_, ?_, ?_, ?_⟩
  · rw [e 3 (by omega)]
    exact h3
  · rw [e2 63 (by omega) (by omega) (by omega)]
    exact h4
  · rw [e 5 (by omega)]
    exact h5
  · rw [e2 65 (by omega) (by omega) (by omega)]
    exact h6
theorem DD_fr {c : Nat → Prop} (h : DD n s q P tl tx m) (f : Fr c m m1) (hc : ∀ a, c a → 69 ≤ a ∨ a = 64) : DD n s q P tl tx m1 :=
  DD_w h (fun k _ => by rw [(f.1 61 (fun q => by have := hc _ q; omega)).1]) (fun a h1 h2 h3 => (f.1 a (fun q => by have := hc _ q; omega)).1) (by rw [(f.1 62 (fun q => by have := hc _ q; omega)).1]; exact h.2.1)
theorem DD_row (h : DD n s q P tl tx m) : DD n s' q P tl tx (m.rI 62 s') :=
  DD_w h (fun k _ => rfl) (fun a h1 h2 _ => rI_n _ _ (by omega)) (rI_I _ _ _)
theorem DD_61 (h : DD n s q P tl tx m) {k : Nat} {x : Int32} (hk : k ≠ 3 ∧ k ≠ 5 ∧ k ≠ 9 ∧ k ≠ 11) : DD n s q P tl tx (m.sI 61 k x) :=
  DD_w h (fun j hj => by rw [sI_at, if_neg (by omega)]) (fun a h1 h2 _ => by rw [sI_I, if_neg (by omega)]) (by rw [sI_I, if_neg (by omega)]; exact h.2.1)
/-- the states that are held, after one more -/
def psh {α : Type} (q : Nat) (P : Nat → α) (x : α) (i : Nat) : α := if i + 1 = up4 q then x else P (if q = 4 then i + 1 else i)
theorem c_saved (h : CC n s M q P PM tl tx m) (h1 : s 1 = 0 ∨ s 1 = 1) (hq : q ≤ 4) : ∃ m1, f_X3_save 0 (HH m) = some (HH m1) ∧ CC n s M (up4 q) (psh q P s) (psh q PM M) tl tx m1 ∧ upC m m1 := by
  obtain ⟨k1, k2, k3, k4, k5, k6, k7, k8⟩ := h
  obtain ⟨m1, e1, a1, b1, r1, c1, f1⟩ := c_save k3 h1 hq k4 k5
  have hu : up4 q ≤ 4 ∧ 1 ≤ up4 q := by unfold up4; split <;> omega
  have hb : vS (m1.V (up4 q - 1)) := b1.1 _ (by omega)
  have u : ∀ a, a ≠ 0 → a < 29 ∨ 61 ≤ a → m1.I a = m.I a ∧ m1.J a = m.J a := fun a h0 ha => f1 a h0 (fun hc => by have := vS_lt hb hc; omega)
  refine ⟨m1, e1, ⟨LC_of k1 (fun a _ hb => u a (by omega) (by omega)), ?_, RS_of k3 (fun a ha => u a (by unfold cS at ha; omega) (by unfold cS at ha; omega)), a1, b1, ?_, ?_, ?_⟩, fun a ha => u a (by omega) (by omega)⟩
  · unfold LZ
    rw [(u 4 (by omega) (by omega)).1]
    exact k2
  · intro i hi
    unfold psh
    by_cases c : i + 1 = up4 q
    · rw [if_pos c, if_pos c, show i = up4 q - 1 by omega]
      exact r1
    · rw [if_neg c, if_neg c, c1 i (by omega)]
      have hiq : (if q = 4 then i + 1 else i) < q := by
        unfold up4 at hi c
        split <;> split at hi <;> split at c <;> omega
      have hne : m1.V i ≠ m1.V (up4 q - 1) := fun e => by
        have := b1.2 _ _ (by omega) (by omega) e
        omega
      refine RS_of (k6 _ hiq) (fun a ha => ?_)
      rw [← c1 i (by omega)] at ha
      have hvi := b1.1 i (by omega)
      refine f1 a (by have := vS_lt hvi ha; omega) (fun hc => hne ?_)
      unfold cS at ha hc
      rcases hvi with e | e | e | e <;> rcases hb with e2 | e2 | e2 | e2 <;> rw [e] at ha ⊢ <;> rw [e2] at hc ⊢ <;> omega
  · rw [(u 17 (by omega) (by omega)).1]
    exact k7
  · rw [(u 18 (by omega) (by omega)).1]
    exact k8
/-- the reference holds a row aside -/
def AS (s0 : Nat → Int32) (m : Mem) : Prop := ∀ k, k < 243 → m.I 64 k = s0 k
theorem d_hold (h : DD n s q P tl tx m) : ∃ m1, f_X4_hold 61 (HH m) = some (HH m1) ∧ DD n s q P tl tx m1 ∧ AS s m1 ∧ upM m m1 := by
  obtain ⟨m1, e, k, f⟩ := m_hold m
  refine ⟨m1, e, DD_fr h f (fun a ha => Or.inr ha), fun j hj => ?_, upM_fr f (fun a ha => by unfold cC at ha; omega)⟩
  rw [k j hj, h.2.1]
theorem d_ends {s0 : Nat → Int32} (h : DD n s q P tl tx m) (ha : AS s0 m) (hq : q ≤ 4) (v : Int32) : ∃ m1, f_X4_ends 61 v (HH m) = some (v, HH m1) ∧ DD n s (up4 q) (psh q P s0) tl tx m1 ∧ m1.I 61 6 = 0 ∧ upM m m1 := by
  obtain ⟨k1, k2, k3, k4, k5, k6⟩ := h
  obtain ⟨m1, e, a3, a6, ak, h63, f⟩ := m_ends m hq k3 v
  have u : ∀ a, a ≠ 61 → a ≠ 63 → m1.I a = m.I a := fun a h1 h2 => (f.1 a (fun c => by unfold cE at c; omega)).1
  refine ⟨m1, e, ⟨LM_fr k1 (ak 9 (by omega) (by omega)) (ak 11 (by omega) (by omega)) (u 66 (by omega) (by omega)) (u 67 (by omega) (by omega)) (u 68 (by omega) (by omega)), ?_, a3, ?_, ?_, ?_⟩, a6, upM_fr f (fun a ha => by unfold cE at ha; omega)⟩
  · rw [u 62 (by omega) (by omega)]
    exact k2
  · intro i k hi hk
    rw [h63 i k hi hk]
    unfold psh
    by_cases c : i + 1 = up4 q
    · rw [if_pos c, if_pos c]
      exact ha k hk
    · rw [if_neg c, if_neg c]
      refine k4 _ k ?_ hk
      unfold up4 at hi c
      split <;> split at hi <;> split at c <;> omega
  · rw [ak 5 (by omega) (by omega)]
    exact k5
  · rw [u 65 (by omega) (by omega)]
    exact k6
theorem psh_ok {P : Nat → Nat → Int32} {PM : Nat → Nat → Int64} (hq : q ≤ 4) (h : ∀ i, i < q → ∃ ni, GG ni (P i) (PM i)) (g : GG n s M) : ∀ i, i < up4 q → ∃ ni, GG ni (psh q P s i) (psh q PM M i) := by
  intro i hi
  unfold psh
  by_cases c : i + 1 = up4 q
  · rw [if_pos c, if_pos c]
    exact ⟨n, g⟩
  · rw [if_neg c, if_neg c]
    refine h _ ?_
    unfold up4 at hi c
    split <;> split at hi <;> split at c <;> omega
theorem up4_le (q : Nat) (hq : q ≤ 4) : up4 q ≤ 4 := by unfold up4; split <;> omega
end Pic
