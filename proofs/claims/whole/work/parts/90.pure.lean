def PP (x m ot : Nat) (h : Hp) : Prop := True
theorem start_ok : ∃ x m ot h, f_start = some (x, m, ot, h) ∧ PP x m ot h := sorry
theorem step_ok : ∀ (L : Nat) (xs : Nat → Int32) (x m ot : Nat) (j : Nat) (h : Hp), PP x m ot h → L ≤ 2560 → 5 * j + 5 ≤ L → ∃ h2, f_body L xs x m ot (Int32.ofNat (5 * j)) h = some h2 ∧ PP x m ot h2 := sorry
