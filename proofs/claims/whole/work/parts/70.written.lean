/-! written -/
def wLn (v : Int32) : Nat := if v = -1 then 5 else 4
def wWd (v : Int32) : Nat := if v = 0 then 2 else if v = -1 then 1 else 0
/-- a byte of what is written of a triple -/
def wBy (n : Nat) (v : Int32) (t r : Nat) : Int32 := if r < wLn v then byW (wWd v) r else if r = wLn v then 32 else if r ≤ wLn v + 3 then 97 + nI (cor n t (r - wLn v - 1)) else 59
def wrV (n : Nat) (s : Nat → Int32) : Nat → Nat → Nat → Int32
  | 0, _, _ => -100
  | d + 1, k, x => if s (3 + 4 * k + 1) = 1 then (if x < wLn (s (3 + 4 * k)) + 5 then wBy n (s (3 + 4 * k)) k x else wrV n s d (k + 1) (x - (wLn (s (3 + 4 * k)) + 5))) else wrV n s d (k + 1) x
theorem wrV_s (n : Nat) (s : Nat → Int32) (d k x : Nat) : wrV n s (d + 1) k x = if s (3 + 4 * k + 1) = 1 then (if x < wLn (s (3 + 4 * k)) + 5 then wBy n (s (3 + 4 * k)) k x else wrV n s d (k + 1) (x - (wLn (s (3 + 4 * k)) + 5))) else wrV n s d (k + 1) x := rfl
theorem wd3 {v : Int32} (h : ok3 v) : f_X1_wordFor v = some (nI (wWd v)) ∧ wWd v < 6 ∧ lnW (wWd v) = wLn v ∧ wLn v ≤ 5 := by
  rcases h with rfl | rfl | rfl <;> decide
theorem lt3 {v : Int32} (h : ok3 v) : ∀ r, r < wLn v + 1 → f_X4_letterOf v (nI r) = some (if r < wLn v then byW (wWd v) r else 32) := by
  rcases h with rfl | rfl | rfl <;> decide +kernel
theorem hd3 {v : Int32} (h : ok3 v) : (if 0 ≤ v then some (5 : Int32) else some 6) = some (nI (wLn v + 1)) := by
  rcases h with rfl | rfl | rfl <;> decide
theorem sub_n : ∀ L, L < 7 → ∀ r, r < 7 → r < L → ¬ (0 : Int32) ≤ nI r - nI L := by decide +kernel
theorem c_wIn {n : Nat} (hn : n38 n) {m : Mem} (hL : LC n m) {v : Int32} (hv : ok3 v) {t r : Nat} (ht : t < nT n) (hr : r < wLn v + 5) : f_X3_writtenIn 0 (nI t) (UInt32.ofNat (wWd v)) (nI r) (HH m) = some (wBy n v t r) := by
  obtain ⟨w1, w2, w3, w4⟩ := wd3 hv
  unfold f_X3_writtenIn wBy
  rw [o_0, Option.bind_some, sLen_e _ w2, Option.bind_some, w3, if_neg (nI_pos (show r < 2 ^ 31 by omega))]
  by_cases c : r < wLn v
  · rw [if_neg (sub_n _ (by omega) _ (by omega) c), sCh_e _ w2 r (by omega) (by omega), if_pos c]
    rfl
  · have es : nI r - nI (wLn v) = nI (r - wLn v) := pk_sub (by omega)
    rw [es, if_pos (le_nlt (nI_pos (show r - wLn v < 2 ^ 31 by omega))), if_neg c]
    simp only [bindR0]
    have z : nI (r - wLn v) = 0 ↔ r - wLn v = 0 := nI_eq (b := 0) (by omega) (by decide)
    by_cases c0 : r = wLn v
    · rw [if_pos (z.mpr (by omega)), if_pos c0]
    · rw [if_neg (fun h => c0 (by have := z.mp h; omega)), if_neg c0]
      have l3 : nI (r - wLn v) ≤ (3 : Int32) ↔ r - wLn v ≤ 3 := nI_leI (b := 3) (by omega) (by decide)
      by_cases c3 : r ≤ wLn v + 3
      · have e1 : nI (r - wLn v) - (1 : Int32) = nI (r - wLn v - 1) := pk_sub (a := r - wLn v) (b := 1) (by omega)
        rw [if_pos (l3.mpr (by omega)), if_pos c3, g_0_0, Option.bind_some, e1, cl_cor hn hL ht (by omega), Option.bind_some]
      · rw [if_neg (fun h => c3 (by have := l3.mp h; omega)), if_neg c3]
theorem c_wr {n : Nat} {m : Mem} {s : Nat → Int32} {M : Nat → Int64} (g : GG n s M) (hL : LC n m) (hs : RS 9 m s M) {x : Nat} (hx : x < 2 ^ 31) : f_X3_written 0 (nI x) (HH m) = some (.inr (wrV n s (nT n) 0 x)) := by
  have hn := g.1
  have hT := nT_le hn
  have key : ∃ b, l_X3_written_19 0 (HH m) FU (nI x) (nI 0) = some b ∧ ((b = .inl () ∧ wrV n s (nT n) 0 x = -100) ∨ b = .inr (.inr (wrV n s (nT n) 0 x))) := by
    refine loopR (fun fuel (a : Int32 × Int32) => l_X3_written_19 0 (HH m) fuel a.1 a.2) (fun k a => ∃ y, a = (nI y, nI k) ∧ y < 2 ^ 31 ∧ wrV n s (nT n - k) k y = wrV n s (nT n) 0 x) _ (nT n) ?_ ?_ (nT n) 0 (nI x, nI 0) FU (by omega) (FUx (by omega)) ⟨x, rfl, hx, rfl⟩
    · rintro k a fuel hk ⟨y, rfl, hy, hV⟩
      have e1 : m.I 11 k = s (3 + 4 * k + 1) := (hs.2.2.2.1 k (by omega)).2.1
      have e0 : m.I 10 k = s (3 + 4 * k) := (hs.2.2.2.1 k (by omega)).1
      rw [show nT n - k = (nT n - (k + 1)) + 1 by omega, wrV_s] at hV
      by_cases c : s (3 + 4 * k + 1) = 1
      · rw [if_pos c] at hV
        have hv : ok3 (s (3 + 4 * k)) := by
          rcases g.2.2.2 k (by omega) with q | q | ⟨r, st, q⟩
          · rw [q.1] at c
            exact absurd c (by decide)
          · exact q.2.2.1
          · exact q.2.2.1
        obtain ⟨w1, w2, w3, w4⟩ := wd3 hv
        have e5 : nI (wLn (s (3 + 4 * k))) + (5 : Int32) = nI (wLn (s (3 + 4 * k)) + 5) := nI_add _ 5
        have head : l_X3_written_19 0 (HH m) (fuel + 1) (nI y) (nI k) = bindQ1 (if nI (wLn (s (3 + 4 * k)) + 5) ≤ nI y then some (Sum.inl (nI y - nI (wLn (s (3 + 4 * k)) + 5))) else (f_X3_writtenIn 0 (nI k) (UInt32.ofNat (wWd (s (3 + 4 * k)))) (nI y) (HH m)).bind fun v20 => some (.inr (.inr v20))) (fun v9 => l_X3_written_19 0 (HH m) fuel v9 (nI k + 1)) := by
          rw [l_X3_written_19]
          simp only [g_0_0, g_0_1, g_1_1, g_9_3, g_9_4, Option.bind_some, hL.2.1, if_neg (nle_of (show nT n < 2 ^ 31 by omega) hk), r_11 m (show k < 56 by omega), r_10 m (show k < 56 by omega), e1, e0, if_pos c, w1, spell_e _ w2, sLen_e _ w2, w3, e5]
        by_cases cy : y < wLn (s (3 + 4 * k)) + 5
        · rw [if_pos cy] at hV
          refine Or.inr ⟨_, ?_, Or.inr rfl⟩
          show l_X3_written_19 0 (HH m) (fuel + 1) (nI y) (nI k) = _
          rw [head, if_neg (nle_of (by omega) cy), c_wIn hn hL hv hk cy, Option.bind_some, ← hV]
          rfl
        · rw [if_neg cy] at hV
          refine Or.inl ⟨(nI (y - (wLn (s (3 + 4 * k)) + 5)), nI (k + 1)), ?_, _, rfl, by omega, hV⟩
          show l_X3_written_19 0 (HH m) (fuel + 1) (nI y) (nI k) = _
          rw [head, if_pos (le_of (by omega) (by omega)), show nI y - nI (wLn (s (3 + 4 * k)) + 5) = nI (y - (wLn (s (3 + 4 * k)) + 5)) from pk_sub (by omega), add_1]
          rfl
      · rw [if_neg c] at hV
        refine Or.inl ⟨(nI y, nI (k + 1)), ?_, y, rfl, hy, hV⟩
        show l_X3_written_19 0 (HH m) (fuel + 1) (nI y) (nI k) = _
        rw [l_X3_written_19]
        simp only [g_0_0, g_0_1, g_1_1, g_9_4, Option.bind_some, hL.2.1, if_neg (nle_of (show nT n < 2 ^ 31 by omega) hk), r_11 m (show k < 56 by omega), e1, if_neg c, bindQ1, add_1]
    · rintro a fuel ⟨y, rfl, hy, hV⟩
      rw [Nat.sub_self] at hV
      refine ⟨_, ?_, Or.inl ⟨rfl, hV.symm⟩⟩
      show l_X3_written_19 0 (HH m) (fuel + 1) (nI y) (nI (nT n)) = _
      rw [l_X3_written_19]
      simp only [g_0_0, g_1_1, Option.bind_some, hL.2.1, if_pos (Int32.le_refl (nI (nT n)))]
  obtain ⟨b, e, h⟩ := key
  unfold f_X3_written
  rw [o_0, Option.bind_some, if_pos (le_nlt (nI_pos hx)), show l_X3_written_19 0 (HH m) FU (nI x) 0 = _ from e]
  rcases h with ⟨rfl, h⟩ | rfl
  · rw [h]
    rfl
  · rfl
theorem m_wrt {n : Nat} {m : Mem} {M : Nat → Int64} (g : GG n (m.I 62) M) (hL : LM n m) {x : Nat} (hx : x < 2 ^ 31) : f_X4_written 61 (nI x) (HH m) = some (wrV n (m.I 62) (nT n) 0 x, HH (m.sI 61 6 0)) := by
  have hn := g.1
  have hT := nT_le hn
  have key : ∃ b, l_X4_written_14 61 (HH m) FU (nI x) (nI 0) = some b ∧ ((b = .inl () ∧ wrV n (m.I 62) (nT n) 0 x = -100) ∨ b = .inr (wrV n (m.I 62) (nT n) 0 x, HH (m.sI 61 6 0))) := by
    refine loopR (fun fuel (a : Int32 × Int32) => l_X4_written_14 61 (HH m) fuel a.1 a.2) (fun k a => ∃ y, a = (nI y, nI k) ∧ y < 2 ^ 31 ∧ wrV n (m.I 62) (nT n - k) k y = wrV n (m.I 62) (nT n) 0 x) _ (nT n) ?_ ?_ (nT n) 0 (nI x, nI 0) FU (by omega) (FUx (by omega)) ⟨x, rfl, hx, rfl⟩
    · rintro k a fuel hk ⟨y, rfl, hy, hV⟩
      obtain ⟨v, ev⟩ : ∃ v, v = m.I 62 (3 + 4 * k) := ⟨_, rfl⟩
      have q1 := get_1 m (t := k) (by omega)
      have q0 := get_0 m (t := k) (by omega)
      rw [← ev] at q0
      rw [show nT n - k = (nT n - (k + 1)) + 1 by omega, wrV_s, ← ev] at hV
      by_cases c : m.I 62 (3 + 4 * k + 1) = 1
      · rw [if_pos c] at hV
        have hv : ok3 v := by
          rw [ev]
          rcases g.2.2.2 k (by omega) with q | q | ⟨r, st, q⟩
          · rw [q.1] at c
            exact absurd c (by decide)
          · exact q.2.2.1
          · exact q.2.2.1
        obtain ⟨w1, w2, w3, w4⟩ := wd3 hv
        obtain ⟨L, eL⟩ : ∃ L, L = wLn v := ⟨_, rfl⟩
        have e4 : nI (L + 1) + (4 : Int32) = nI (L + 5) := nI_add (L + 1) 4
        have e3 : nI (L + 1) + (3 : Int32) = nI (L + 4) := nI_add (L + 1) 3
        have eh := hd3 hv
        rw [← eL] at eh hV w4
        have head : l_X4_written_14 61 (HH m) (fuel + 1) (nI y) (nI k) = bindQ1 (if nI (L + 1) ≤ nI y then (if nI (L + 5) ≤ nI y then some (Sum.inl (nI y - nI (L + 5))) else if nI y = nI (L + 4) then some (.inr ((59 : Int32), HH (m.sI 61 6 0))) else (aI (HH m) 66 (((3 : Int32) * nI k + nI y) - nI (L + 1))).bind fun v22 => some (.inr ((97 : Int32) + v22, HH (m.sI 61 6 0)))) else (f_X4_letterOf v (nI y)).bind fun v26 => some (.inr (v26, HH (m.sI 61 6 0)))) (fun v6 => l_X4_written_14 61 (HH m) fuel v6 (nI k + 1)) := by
          rw [l_X4_written_14]
          simp only [g_61_9, g_61_7, Option.bind_some, hL.1, if_neg (nle_of (show nT n < 2 ^ 31 by omega) hk), q1, q0, if_pos c, eh, e4, e3, m_tells, bind2]
        by_cases cy : y < L + 5
        · rw [if_pos cy] at hV
          refine Or.inr ⟨_, ?_, Or.inr rfl⟩
          show l_X4_written_14 61 (HH m) (fuel + 1) (nI y) (nI k) = _
          rw [head, ← hV]
          unfold wBy
          rw [← eL]
          by_cases c1 : y < L + 1
          · have el := lt3 hv y (by omega)
            rw [← eL] at el
            rw [if_neg (nle_of (by omega) c1), el, Option.bind_some]
            by_cases c0 : y < L
            · rw [if_pos c0, if_pos c0]
              rfl
            · rw [if_neg c0, if_neg c0, if_pos (show y = L by omega)]
              rfl
          · rw [if_pos (le_of (by omega) (by omega)), if_neg (nle_of (by omega) cy), if_neg (show ¬ y < L by omega), if_neg (show ¬ y = L by omega)]
            have q4 : nI y = nI (L + 4) ↔ y = L + 4 := nI_eq (by omega) (by omega)
            by_cases c4 : y = L + 4
            · rw [if_pos (q4.mpr c4), if_neg (show ¬ y ≤ L + 3 by omega)]
              rfl
            · have ei : ((3 : Int32) * nI k + nI y) - nI (L + 1) = nI (3 * k + (y - L - 1)) := by
                rw [show (3 : Int32) * nI k = nI (3 * k) from pk_mul 3 k, nI_add, show nI (3 * k + y) - nI (L + 1) = nI (3 * k + y - (L + 1)) from pk_sub (by omega), show 3 * k + y - (L + 1) = 3 * k + (y - L - 1) by omega]
              rw [if_neg (fun h => c4 (q4.mp h)), if_pos (show y ≤ L + 3 by omega), ei, r_66 m (by omega), Option.bind_some, hL.2.2.1 k (y - L - 1) hk (by omega)]
              rfl
        · rw [if_neg cy] at hV
          refine Or.inl ⟨(nI (y - (L + 5)), nI (k + 1)), ?_, _, rfl, by omega, hV⟩
          show l_X4_written_14 61 (HH m) (fuel + 1) (nI y) (nI k) = _
          rw [head, if_pos (le_of (by omega) (by omega)), if_pos (le_of (by omega) (by omega)), show nI y - nI (L + 5) = nI (y - (L + 5)) from pk_sub (by omega), add_1]
          rfl
      · rw [if_neg c] at hV
        refine Or.inl ⟨(nI y, nI (k + 1)), ?_, y, rfl, hy, hV⟩
        show l_X4_written_14 61 (HH m) (fuel + 1) (nI y) (nI k) = _
        rw [l_X4_written_14]
        simp only [g_61_9, Option.bind_some, hL.1, if_neg (nle_of (show nT n < 2 ^ 31 by omega) hk), q1, if_neg c, bindQ1, add_1]
    · rintro a fuel ⟨y, rfl, hy, hV⟩
      rw [Nat.sub_self] at hV
      refine ⟨_, ?_, Or.inl ⟨rfl, hV.symm⟩⟩
      show l_X4_written_14 61 (HH m) (fuel + 1) (nI y) (nI (nT n)) = _
      rw [l_X4_written_14]
      simp only [g_61_9, Option.bind_some, hL.1, if_pos (Int32.le_refl (nI (nT n)))]
  obtain ⟨b, e, h⟩ := key
  unfold f_X4_written
  rw [o_61, Option.bind_some, if_pos (le_nlt (nI_pos hx)), show l_X4_written_14 61 (HH m) FU (nI x) 0 = _ from e]
  rcases h with ⟨rfl, h⟩ | rfl
  · rw [h]
    simp only [bindR0, m_tells, bind2]
  · rfl
theorem k_written {m : Mem} (hi : INV m) (x : Int32) : okW (f_L_written 0 x 77) (f_X4_written 61 x) m := by
  obtain ⟨n, s, M, q, P, PM, tl, tx, hC, hD, b⟩ := INV_out hi
  by_cases c : x < 0
  · refine W_thr (k := 1) (by decide) ?_ hC b ⟨0, _, ?_, fl hD 1⟩
    · simp only [f_L_written, f_X3_written, o_0, Option.bind_some, if_neg (nle_lt c), bindT, if_true]
    · simp only [f_X4_written, o_61, Option.bind_some, if_neg (nle_lt c), m_fails, bind2]
  · obtain ⟨e1, e2⟩ := i32_nat c
    have hx : x.toInt.toNat < 2 ^ 31 := by
      have hb := x.toInt_lt
      omega
    rw [e1]
    refine W_ok (m1 := m) (w := (wrV n s (nT n) 0 x.toInt.toNat).toInt64) ?_ hC (upC_rf m) hD b (fun m3 hD3 => ?_)
    · simp only [f_L_written, c_wr b.1 hC.1 hC.2.2.1 hx, bindT, w77, Option.bind_some]
    · have e := m_wrt (m := m3) (M := M) (by rw [hD3.2.1]; exact b.1) hD3.1 hx
      rw [hD3.2.1] at e
      exact ⟨_, _, e, rfl, fl hD3 0⟩
