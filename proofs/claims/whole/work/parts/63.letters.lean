/-! letters in a long -/
def stL (x : Int64) (b : Int32) : Int64 := (x <<< (((8 : Int32)).toInt64 &&& 63)) ||| b.toInt64
theorem sh8 (x : Int64) : (x <<< (((8 : Int32)).toInt64 &&& 63)).toBitVec = x.toBitVec <<< 8 := rfl
theorem by_lo : ∀ b, b < 128 → ((nI b).toInt64 &&& 255) = (nI b).toInt64 := by decide +kernel
theorem by_hi : ∀ b, b < 128 → ((nI b).toInt64 &&& (-256)) = 0 := by decide +kernel
theorem sh_lo (x : Int64) : (x <<< (((8 : Int32)).toInt64 &&& 63)) &&& 255 = 0 := by
  apply Int64.toBitVec_inj.mp
  have e : ((x <<< (((8 : Int32)).toInt64 &&& 63)) &&& 255).toBitVec = (x.toBitVec <<< 8) &&& 255#64 := rfl
  rw [e]
  ext i hi
  by_cases c : i < 8
  · simp [c]
  · have h255 : (255#64)[i] = false := by
      have : i < 64 := hi
      have k : ∀ i : Nat, (h : i < 64) → 8 ≤ i → (255#64)[i] = false := by decide
      exact k i hi (by omega)
    simp [h255]
theorem sh_hi (x : Int64) : (x <<< (((8 : Int32)).toInt64 &&& 63)) &&& (-256) = (x <<< (((8 : Int32)).toInt64 &&& 63)) := by
  apply Int64.toBitVec_inj.mp
  have e : ((x <<< (((8 : Int32)).toInt64 &&& 63)) &&& (-256)).toBitVec = (x.toBitVec <<< 8) &&& (18446744073709551360#64) := rfl
  rw [e, sh8]
  ext i hi
  by_cases c : i < 8
  · simp [c]
  · have h255 : (18446744073709551360#64)[i] = true := by
      have k : ∀ i : Nat, (h : i < 64) → 8 ≤ i → (18446744073709551360#64)[i] = true := by decide
      exact k i hi (by omega)
    simp [h255]
/-- no letter is lost when one more comes -/
def smL (x : Int64) : Prop := ∀ i, 56 ≤ i → x.toBitVec.getLsbD i = false
theorem sh_inj {x y : Int64} (hx : smL x) (hy : smL y) (h : (x <<< (((8 : Int32)).toInt64 &&& 63)) = (y <<< (((8 : Int32)).toInt64 &&& 63))) : x = y := by
  have h2 : x.toBitVec <<< 8 = y.toBitVec <<< 8 := by rw [← sh8, ← sh8, h]
  apply Int64.toBitVec_inj.mp
  apply BitVec.eq_of_getLsbD_eq
  intro i hi
  by_cases c : i < 56
  · have := congrArg (fun v : BitVec 64 => v.getLsbD (i + 8)) h2
    simp only [BitVec.getLsbD_shiftLeft] at this
    have d : decide (i + 8 < 8) = false := decide_eq_false (by omega)
    simpa [show i + 8 < 64 by omega, d] using this
  · rw [hx i (by omega), hy i (by omega)]
theorem st_inj {x y : Int64} {b c : Nat} (hb : b < 128) (hc : c < 128) (hx : smL x) (hy : smL y) (h : stL x (nI b) = stL y (nI c)) : b = c ∧ x = y := by
  unfold stL at h
  have h1 := congrArg (fun v => v &&& (255 : Int64)) h
  have h2 := congrArg (fun v => v &&& (-256 : Int64)) h
  simp only [orJ_a, sh_lo, sh_hi, by_lo b hb, by_lo c hc, by_hi b hb, by_hi c hc] at h1 h2
  have z : ∀ v : Int64, (0 : Int64) ||| v = v := fun v => by simp
  have z2 : ∀ v : Int64, v ||| (0 : Int64) = v := fun v => by simp
  rw [z, z] at h1
  rw [z2, z2] at h2
  refine ⟨?_, sh_inj hx hy h2⟩
  have k : ∀ b, b < 128 → ((nI b).toInt64).toInt = (b : Int) := by decide +kernel
  have := congrArg Int64.toInt h1
  rw [k b hb, k c hc] at this
  omega
/-- bits from 8 k on are 0 -/
def smK (k : Nat) (x : Int64) : Prop := ∀ i, 8 * k ≤ i → x.toBitVec.getLsbD i = false
theorem smK_0 : smK 0 0 := fun i _ => by
  show (0#64).getLsbD i = false
  simp
theorem smK_s {k : Nat} {x : Int64} {b : Nat} (hb : b < 128) (h : smK k x) : smK (k + 1) (stL x (nI b)) := by
  intro i hi
  have e : (stL x (nI b)).toBitVec = (x.toBitVec <<< 8) ||| (nI b).toInt64.toBitVec := rfl
  rw [e, BitVec.getLsbD_or, BitVec.getLsbD_shiftLeft]
  have hbit : (nI b).toInt64.toBitVec.getLsbD i = false := by
    by_cases c : i < 64
    · have k : ∀ b, b < 128 → ∀ i, i < 64 → 8 ≤ i → (nI b).toInt64.toBitVec.getLsbD i = false := by decide +kernel
      exact k b hb i c (by omega)
    · exact BitVec.getLsbD_of_ge _ _ (by omega)
  rw [hbit, h (i - 8) (by omega)]
  simp
theorem smL_K {k : Nat} {x : Int64} (hk : k ≤ 7) (h : smK k x) : smL x := fun i hi => h i (by omega)
