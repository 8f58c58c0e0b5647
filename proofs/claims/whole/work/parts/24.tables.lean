/-! the tables of a number of points -/
def trips (n : Nat) : List (Nat × Nat × Nat) := (List.range n).flatMap fun i => (List.range n).flatMap fun j => (List.range n).filterMap fun k => if i < j ∧ j < k then some (i, j, k) else none
def rels (n : Nat) : List (List Nat) := (List.range n).flatMap fun a => (List.range n).flatMap fun b => (List.range n).flatMap fun c => (List.range n).flatMap fun d => (List.range n).filterMap fun e => if b < c ∧ c < d ∧ d < e ∧ a ≠ b ∧ a ≠ c ∧ a ≠ d ∧ a ≠ e then some [a, b, c, d, e] else none
def nT (n : Nat) : Nat := (trips n).length
def nR (n : Nat) : Nat := (rels n).length
/-- a corner of a triple -/
def cor (n t w : Nat) : Nat := match (trips n)[t]? with
  | none => 0
  | some (i, j, k) => if w = 0 then i else if w = 1 then j else k
/-- a member of a relation -/
def mem (n r w : Nat) : Nat := ((rels n).getD r []).getD w 0
/-- the number of a triple, its corners in order -/
def nu (n i j k : Nat) : Nat := (trips n).findIdx fun x => x == (i, j, k)
def num (n i j k : Nat) : Nat := if i < j then (if j < k then nu n i j k else if i < k then nu n i k j else nu n k i j) else (if i < k then nu n j i k else if j < k then nu n j k i else nu n k j i)
def par (i j k : Nat) : Int32 := if i = j ∨ i = k ∨ j = k then 0 else if i < j then (if j < k then 1 else if i < k then -1 else 1) else (if i < k then -1 else if j < k then 1 else -1)
/-- the places of a relation's six triples in it -/
def fx (w : Nat) : Nat × Nat := match w with
  | 0 => (1, 2)
  | 1 => (3, 4)
  | 2 => (1, 3)
  | 3 => (2, 4)
  | 4 => (1, 4)
  | _ => (2, 3)
def fac (n r w : Nat) : Nat := num n (mem n r 0) (mem n r (fx w).1) (mem n r (fx w).2)
def fby (n r w : Nat) : Int32 := par (mem n r 0) (mem n r (fx w).1) (mem n r (fx w).2)
/-- the class's layout -/
def LC (n : Nat) (m : Mem) : Prop := m.I 1 0 = nI n ∧ m.I 1 1 = nI (nT n) ∧ m.I 1 2 = nI (nR n) ∧
  (∀ t w, t < nT n → w < 3 → m.I 2 (t * 3 + w) = nI (cor n t w)) ∧
  (∀ i j k, i < n → j < n → k < n → m.I 4 ((i * 8 + j) * 8 + k) = par i j k ∧ (i ≠ j → i ≠ k → j ≠ k → m.I 3 ((i * 8 + j) * 8 + k) = nI (num n i j k))) ∧
  ∀ r, r < nR n → (∀ w, w < 5 → m.I 5 (r * 5 + w) = nI (mem n r w)) ∧ (∀ w, w < 6 → m.I 6 (r * 6 + w) = nI (fac n r w)) ∧
    (∀ p, p < 3 → m.I 7 (r * 3 + p) = (if p = 1 then -1 else 1) * fby n r (2 * p) * fby n r (2 * p + 1)) ∧
    ∀ t, t < 56 → ((m.J 8 r &&& ((1 : Int64) <<< ((nI t).toInt64 &&& 63))) ≠ 0 ↔ ∃ w, w < 6 ∧ fac n r w = t)
/-- the reference's -/
def LM (n : Nat) (m : Mem) : Prop := m.I 61 9 = nI (nT n) ∧ m.I 61 11 = nI (nR n) ∧
  (∀ t w, t < nT n → w < 3 → m.I 66 (3 * t + w) = nI (cor n t w)) ∧
  (∀ i j k, i < j → j < k → k < n → m.I 67 (64 * i + 8 * j + k) = nI (nu n i j k)) ∧
  ∀ r w, r < nR n → w < 5 → m.I 68 (5 * r + w) = nI (mem n r w)
def n38 (n : Nat) : Prop := 3 ≤ n ∧ n ≤ 8
theorem n38_cases {P : Nat → Prop} (h : ∀ q, q < 6 → P (q + 3)) {n : Nat} (hn : n38 n) : P n := by
  have := h (n - 3) (by have := hn.1; have := hn.2; omega)
  rwa [show n - 3 + 3 = n by have := hn.1; omega] at this
theorem nT_le {n : Nat} (hn : n38 n) : nT n ≤ 56 := n38_cases (P := fun n => nT n ≤ 56) (by decide +kernel) hn
theorem nR_le {n : Nat} (hn : n38 n) : nR n ≤ 280 := n38_cases (P := fun n => nR n ≤ 280) (by decide +kernel) hn
theorem cor_lt {n : Nat} (hn : n38 n) : ∀ t, t < nT n → ∀ w, w < 3 → cor n t w < n := n38_cases (P := fun n => ∀ t, t < nT n → ∀ w, w < 3 → cor n t w < n) (by decide +kernel) hn
theorem cor_up {n : Nat} (hn : n38 n) : ∀ t, t < nT n → cor n t 0 < cor n t 1 ∧ cor n t 1 < cor n t 2 := n38_cases (P := fun n => ∀ t, t < nT n → cor n t 0 < cor n t 1 ∧ cor n t 1 < cor n t 2) (by decide +kernel) hn
theorem mem_lt {n : Nat} (hn : n38 n) : ∀ r, r < nR n → ∀ w, w < 5 → mem n r w < n := n38_cases (P := fun n => ∀ r, r < nR n → ∀ w, w < 5 → mem n r w < n) (by decide +kernel) hn
theorem mem_ne {n : Nat} (hn : n38 n) : ∀ r, r < nR n → ∀ w, w < 6 → mem n r 0 ≠ mem n r (fx w).1 ∧ mem n r 0 ≠ mem n r (fx w).2 ∧ mem n r (fx w).1 ≠ mem n r (fx w).2 := n38_cases (P := fun n => ∀ r, r < nR n → ∀ w, w < 6 → mem n r 0 ≠ mem n r (fx w).1 ∧ mem n r 0 ≠ mem n r (fx w).2 ∧ mem n r (fx w).1 ≠ mem n r (fx w).2) (by decide +kernel) hn
theorem nu_lt0 {n : Nat} (hn : n38 n) : ∀ x, x < 512 → ¬ (x / 64 < x / 8 % 8 ∧ x / 8 % 8 < x % 8 ∧ x % 8 < n) ∨ nu n (x / 64) (x / 8 % 8) (x % 8) < nT n := n38_cases (P := fun n => ∀ x, x < 512 → ¬ (x / 64 < x / 8 % 8 ∧ x / 8 % 8 < x % 8 ∧ x % 8 < n) ∨ nu n (x / 64) (x / 8 % 8) (x % 8) < nT n) (by decide +kernel) hn
theorem nu_lt {n : Nat} (hn : n38 n) (i : Nat) (hi : i < n) (j : Nat) (hj : j < n) (k : Nat) (hk : k < n) (h1 : i < j) (h2 : j < k) : nu n i j k < nT n := by
  have h8 := hn.2
  have e := nu_lt0 hn (64 * i + 8 * j + k) (by omega)
  rw [show (64 * i + 8 * j + k) / 64 = i by omega, show (64 * i + 8 * j + k) / 8 % 8 = j by omega, show (64 * i + 8 * j + k) % 8 = k by omega] at e
  exact e.resolve_left (fun q => q ⟨h1, h2, hk⟩)
theorem nu_cor {n : Nat} (hn : n38 n) : ∀ t, t < nT n → nu n (cor n t 0) (cor n t 1) (cor n t 2) = t := n38_cases (P := fun n => ∀ t, t < nT n → nu n (cor n t 0) (cor n t 1) (cor n t 2) = t) (by decide +kernel) hn
theorem num_lt {n : Nat} (hn : n38 n) {i j k : Nat} (hi : i < n) (hj : j < n) (hk : k < n) (h1 : i ≠ j) (h2 : i ≠ k) (h3 : j ≠ k) : num n i j k < nT n := by
  unfold num
  (repeat' split) <;> first | exact nu_lt hn _ hi _ hj _ hk (by omega) (by omega) | exact nu_lt hn _ hi _ hk _ hj (by omega) (by omega) | exact nu_lt hn _ hk _ hi _ hj (by omega) (by omega) | exact nu_lt hn _ hj _ hi _ hk (by omega) (by omega) | exact nu_lt hn _ hj _ hk _ hi (by omega) (by omega) | exact nu_lt hn _ hk _ hj _ hi (by omega) (by omega)
theorem fac_lt {n : Nat} (hn : n38 n) {r w : Nat} (hr : r < nR n) (hw : w < 6) : fac n r w < nT n := by
  have e : ∀ w, w < 6 → (fx w).1 < 5 ∧ (fx w).2 < 5 := by decide
  have ⟨a, b, c⟩ := mem_ne hn r hr w hw
  exact num_lt hn (mem_lt hn r hr 0 (by omega)) (mem_lt hn r hr _ (e w hw).1) (mem_lt hn r hr _ (e w hw).2) a b c
theorem par_ne {i j k : Nat} (h1 : i ≠ j) (h2 : i ≠ k) (h3 : j ≠ k) : par i j k = 1 ∨ par i j k = -1 := by
  unfold par
  rw [if_neg (by omega)]
  (repeat' split) <;> first | exact Or.inl rfl | exact Or.inr rfl
