/-! a state holds together when derived signs are forgotten, and when a triple is given or taken away -/
def noD2 (s : Nat → Int32) : Prop := ∀ u, u < 56 → s (3 + 4 * u + 1) ≠ 2
theorem GG_noD {n : Nat} {s : Nat → Int32} {M : Nat → Int64} (g : GG n s M) : noD (nT n) s := by
  intro t ht h56 e
  rcases g.2.2.2 t h56 with k | k | ⟨r, st, k⟩
  · rw [k.1] at e
    exact absurd e (by decide)
  · have := k.1
    omega
  · have := k.1
    omega
theorem fgt_o {n : Nat} {s : Nat → Int32} {t w : Nat} (hw : w < 4) (h : s (3 + 4 * t + 1) ≠ 2) : fgt n s (3 + 4 * t + w) = s (3 + 4 * t + w) := by
  unfold fgt
  rw [upd_g, if_neg (by omega)]
  by_cases c : t < n
  · rw [frg_i hw c, if_neg h]
  · exact frg_o (by omega)
theorem fgt_d {n : Nat} {s : Nat → Int32} {t w : Nat} (hw : w < 4) (ht : t < n) (h : s (3 + 4 * t + 1) = 2) : fgt n s (3 + 4 * t + w) = if w = 1 then 0 else -100 := by
  unfold fgt
  rw [upd_g, if_neg (by omega), frg_i hw ht, if_pos h, clr_g]
  by_cases c : w = 1
  · rw [if_neg (by omega), if_pos (by omega), if_pos c]
  · rw [if_pos (by omega), if_neg c]
theorem GG_fgt {n : Nat} {s : Nat → Int32} {M : Nat → Int64} (g : GG n s M) : GG n (fgt (nT n) s) (fgtM s M) ∧ noD2 (fgt (nT n) s) := by
  have key : ∀ t, t < 56 → (G0 (fgt (nT n) s) (fgtM s M) t ∨ G1 n (fgt (nT n) s) (fgtM s M) t) := by
    intro t ht
    rcases g.2.2.2 t ht with k | k | ⟨r, st, k⟩
    · have h2 : s (3 + 4 * t + 1) ≠ 2 := by rw [k.1]; decide
      have f0 := fgt_o (n := nT n) (w := 0) (by omega) h2
      have f1 := fgt_o (n := nT n) (w := 1) (by omega) h2
      have f3 := fgt_o (n := nT n) (w := 3) (by omega) h2
      rw [Nat.add_zero] at f0
      refine Or.inl ⟨f1.trans k.1, f0.trans k.2.1, f3.trans k.2.2.1, ?_⟩
      unfold fgtM
      rw [if_neg h2]
      exact k.2.2.2
    · have h2 : s (3 + 4 * t + 1) ≠ 2 := by rw [k.2.1]; decide
      have f0 := fgt_o (n := nT n) (w := 0) (by omega) h2
      have f1 := fgt_o (n := nT n) (w := 1) (by omega) h2
      have f3 := fgt_o (n := nT n) (w := 3) (by omega) h2
      rw [Nat.add_zero] at f0
      refine Or.inr ⟨k.1, f1.trans k.2.1, by rw [f0]; exact k.2.2.1, f3.trans k.2.2.2.1, ?_⟩
      unfold fgtM
      rw [if_neg h2]
      exact k.2.2.2.2
    · have h2 : s (3 + 4 * t + 1) = 2 := k.2.1
      have f0 := fgt_d (w := 0) (by omega) k.1 h2
      have f1 := fgt_d (w := 1) (by omega) k.1 h2
      have f3 := fgt_d (w := 3) (by omega) k.1 h2
      rw [Nat.add_zero] at f0
      refine Or.inl ⟨f1.trans (if_pos rfl), f0.trans (if_neg (by omega)), f3.trans (if_neg (by omega)), ?_⟩
      unfold fgtM
      rw [if_pos h2]
  have o : ∀ j, j < 2 → fgt (nT n) s j = s j := fun j hj => by
    unfold fgt
    rw [upd_g, if_neg (by omega)]
    exact frg_o (by omega)
  refine ⟨⟨g.1, by rw [o 0 (by omega)]; exact g.2.1, by rw [o 1 (by omega)]; exact g.2.2.1, fun t ht => (key t ht).imp id Or.inl⟩, fun t ht e => ?_⟩
  rcases key t ht with k | k
  · rw [k.1] at e
    exact absurd e (by decide)
  · rw [k.2.1] at e
    exact absurd e (by decide)
theorem GG_gvn {n : Nat} {s : Nat → Int32} {M : Nat → Int64} (g : GG n s M) {t : Nat} (ht : t < nT n) {v : Int32} (hv : ok3 v) (h : s (3 + 4 * t + 1) = 0 ∨ noD2 s) : GG n (gvn t v s) (vp_updL M t (bitT t)) ∧ (noD2 s → noD2 (gvn t v s)) := by
  have hT := nT_le g.1
  have o : ∀ j, j < 3 → gvn t v s j = s j := fun j hj => by
    rw [gvn_g, if_neg (by omega), if_neg (by omega), if_neg (by omega)]
  have d0 : ∀ u, u ≠ t → gvn t v s (3 + 4 * u) = s (3 + 4 * u) := fun u hu => by
    rw [gvn_g, if_neg (by omega), if_neg (by omega), if_neg (by omega)]
  have d1 : ∀ u, u ≠ t → gvn t v s (3 + 4 * u + 1) = s (3 + 4 * u + 1) := fun u hu => by
    rw [gvn_g, if_neg (by omega), if_neg (by omega), if_neg (by omega)]
  have d2 : ∀ u, u ≠ t → gvn t v s (3 + 4 * u + 2) = s (3 + 4 * u + 2) := fun u hu => by
    rw [gvn_g, if_neg (by omega), if_neg (by omega), if_neg (by omega)]
  have d3 : ∀ u, u ≠ t → gvn t v s (3 + 4 * u + 3) = s (3 + 4 * u + 3) := fun u hu => by
    rw [gvn_g, if_neg (by omega), if_neg (by omega), if_neg (by omega)]
  have t1 : gvn t v s (3 + 4 * t + 1) = 1 := by rw [gvn_g, if_neg (by omega), if_pos rfl]
  have M1 : ∀ u, u ≠ t → vp_updL M t (bitT t) u = M u := fun u hu => by rw [updL_g, if_neg hu]
  refine ⟨⟨g.1, by rw [o 0 (by omega)]; exact g.2.1, by rw [o 1 (by omega)]; exact g.2.2.1, fun u hu => ?_⟩, fun hn u hu => ?_⟩
  · by_cases c : u = t
    · subst c
      refine Or.inr (Or.inl ⟨ht, t1, ?_, ?_, ?_⟩)
      · rw [gvn_g, if_pos rfl]
        exact hv
      · rw [gvn_g, if_neg (by omega), if_neg (by omega), if_pos (by omega)]
      · rw [updL_g, if_pos rfl]
    · rcases g.2.2.2 u hu with k | k | ⟨r, st, k⟩
      · refine Or.inl ⟨?_, ?_, ?_, ?_⟩
        · rw [d1 u c]; exact k.1
        · rw [d0 u c]; exact k.2.1
        · rw [d3 u c]; exact k.2.2.1
        · rw [M1 u c]; exact k.2.2.2
      · refine Or.inr (Or.inl ⟨k.1, ?_, ?_, ?_, ?_⟩)
        · rw [d1 u c]; exact k.2.1
        · rw [d0 u c]; exact k.2.2.1
        · rw [d3 u c]; exact k.2.2.2.1
        · rw [M1 u c]; exact k.2.2.2.2
      · rcases h with h0 | hn
        · obtain ⟨y1, y2, y3, y4, y5, y6, y7, y8, y9, y10⟩ := k
          have nt : ∀ w, w < 6 → fac n r w ≠ t := fun w hw6 e => by
            rcases y10 w hw6 with k | k | ⟨k, _⟩
            · exact c (k.symm.trans e)
            · rw [e, h0] at k
              exact absurd k (by decide)
            · rw [e, h0] at k
              exact absurd k (by decide)
          have om : many (gvn t v s) 2 (nT n) = many s 2 (nT n) := cntN_cg _ _ _ (fun x _ => by
            by_cases cx : x = t
            · rw [cx, t1, h0]
              exact ⟨fun q => absurd q (by decide), fun q => absurd q (by decide)⟩
            · rw [d1 x cx])
          refine Or.inr (Or.inr ⟨r, st, y1, ?_, ?_, y4, ?_, ?_, y7, by omega, ?_, ?_⟩)
          · rw [d1 u c]; exact y2
          · rw [d0 u c]; exact y3
          · rw [d2 u c]; exact y5
          · rw [d3 u c]; exact y6
          · rw [M1 u c, y9]
            refine orF_cg 6 (fun w hw6 => ?_)
            show (if fac n r w = u then (0 : Int64) else M (fac n r w)) = if fac n r w = u then 0 else _
            rw [M1 _ (nt w hw6)]
          · intro w hw6
            rw [d1 _ (nt w hw6), d3 _ (nt w hw6)]
            exact y10 w hw6
        · exact absurd k.2.1 (hn u hu)
  · by_cases c : u = t
    · rw [c, t1]
      decide
    · rw [d1 u c]
      exact hn u hu
theorem GG_clr {n : Nat} {s : Nat → Int32} {M : Nat → Int64} (g : GG n s M) {t : Nat} (hn : noD2 s) : GG n (clr t s) (vp_updL M t 0) ∧ noD2 (clr t s) := by
  have o : ∀ j, j < 3 → clr t s j = s j := fun j hj => by
    rw [clr_g, if_neg (by omega), if_neg (by omega)]
  have d0 : ∀ u, u ≠ t → clr t s (3 + 4 * u) = s (3 + 4 * u) := fun u hu => by
    rw [clr_g, if_neg (by omega), if_neg (by omega)]
  have d1 : ∀ u, u ≠ t → clr t s (3 + 4 * u + 1) = s (3 + 4 * u + 1) := fun u hu => by
    rw [clr_g, if_neg (by omega), if_neg (by omega)]
  have d3 : ∀ u, u ≠ t → clr t s (3 + 4 * u + 3) = s (3 + 4 * u + 3) := fun u hu => by
    rw [clr_g, if_neg (by omega), if_neg (by omega)]
  have t1 : clr t s (3 + 4 * t + 1) = 0 := by rw [clr_g, if_neg (by omega), if_pos rfl]
  have M1 : ∀ u, u ≠ t → vp_updL M t 0 u = M u := fun u hu => by rw [updL_g, if_neg hu]
  refine ⟨⟨g.1, by rw [o 0 (by omega)]; exact g.2.1, by rw [o 1 (by omega)]; exact g.2.2.1, fun u hu => ?_⟩, fun u hu => ?_⟩
  · by_cases c : u = t
    · subst c
      refine Or.inl ⟨t1, ?_, ?_, ?_⟩
      · rw [clr_g, if_pos (by omega)]
      · rw [clr_g, if_pos (by omega)]
      · rw [updL_g, if_pos rfl]
    · rcases g.2.2.2 u hu with k | k | ⟨r, st, k⟩
      · refine Or.inl ⟨?_, ?_, ?_, ?_⟩
        · rw [d1 u c]; exact k.1
        · rw [d0 u c]; exact k.2.1
        · rw [d3 u c]; exact k.2.2.1
        · rw [M1 u c]; exact k.2.2.2
      · refine Or.inr (Or.inl ⟨k.1, ?_, ?_, ?_, ?_⟩)
        · rw [d1 u c]; exact k.2.1
        · rw [d0 u c]; exact k.2.2.1
        · rw [d3 u c]; exact k.2.2.2.1
        · rw [M1 u c]; exact k.2.2.2.2
      · exact absurd k.2.1 (hn u hu)
  · by_cases c : u = t
    · rw [c, t1]
      decide
    · rw [d1 u c]
      exact hn u hu
theorem GG_give {n : Nat} {s : Nat → Int32} {M : Nat → Int64} (g : GG n s M) {t : Nat} (ht : t < nT n) {v : Int32} (hv : ok3 v) : GG n (gvR (nT n) t v s) (gvM t v s M) := by
  unfold gvR gvM
  by_cases c : s (3 + 4 * t + 1) = 1 ∧ s (3 + 4 * t) = v
  · rw [if_pos c, if_pos c]
    exact g
  · rw [if_neg c, if_neg c]
    by_cases c0 : s (3 + 4 * t + 1) = 0
    · rw [if_pos c0, if_pos c0]
      exact (GG_gvn (GG_2 g (-100)) ht hv (Or.inl (by rw [upd_g, if_neg (by omega)]; exact c0))).1
    · rw [if_neg c0, if_neg c0]
      obtain ⟨gf, nf⟩ := GG_fgt g
      exact (GG_gvn (GG_2 gf (-100)) ht hv (Or.inr (fun u hu => by rw [upd_g, if_neg (by omega)]; exact nf u hu))).1
theorem GG_take {n : Nat} {s : Nat → Int32} {M : Nat → Int64} (g : GG n s M) {t : Nat} : GG n (tkR (nT n) t s) (tkM t s M) := by
  obtain ⟨gf, nf⟩ := GG_fgt g
  exact (GG_clr gf nf).1
theorem sgn_ok {n : Nat} (hn : n38 n) {s : Nat → Int32} (hs : okS (nT n) s) {i j k : Nat} (hi : i < n) (hj : j < n) (hk : k < n) : sgn n s i j k = -100 ∨ ok3 (sgn n s i j k) := by
  unfold sgn
  by_cases c : i = j ∨ i = k ∨ j = k
  · rw [if_pos c]
    exact Or.inr (Or.inr (Or.inl rfl))
  · rw [if_neg c]
    have hl := num_lt hn hi hj hk (by omega) (by omega) (by omega)
    by_cases d : s (3 + 4 * num n i j k) = -100
    · rw [if_pos d]
      exact Or.inl rfl
    · rw [if_neg d]
      exact Or.inr (ok3_mul (par_ok _ _ _) ((hs _ hl).resolve_left d))
