/-! the start: the cells one after another -/
theorem bnd {α β : Type} {o : Option α} {a : α} {F : α → Option β} {r : Option β} (e : o = some a) (e2 : F a = r) : o.bind F = r := by rw [e]; exact e2
theorem bnd2 {α β γ : Type} {o : Option (α × β)} {a : α} {b : β} {F : α → β → Option γ} {r : Option γ} (e : o = some (a, b)) (e2 : F a b = r) : bind2 o F = r := by rw [e]; exact e2
def f2c : va_E := .inr (2, [.int 0, .int 0, .int 0, .null, .null, .null, .null, .null, .null, .null])
def z2 (a : Nat) : Hp := [.inr (2, [.int 0, .int 0, .int (-100), .ref (a + 1), .ref (a + 2), .ref (a + 3), .ref (a + 4), .ref (a + 5), .ref (a + 6), .ref (a + 7)]), .inl (0, (56, .inl fun _ => 0)), .inl (0, (56, .inl fun _ => 0)), .inl (0, (56, .inl fun _ => 0)), .inl (0, (56, .inl fun _ => 0)), .inl (1, (56, .inr (.inl fun _ => 0))), .inl (0, (8, .inl fun _ => 0)), .inl (0, (8, .inl fun _ => 0))]
def zL : Hp := [.inr (0, [.int 0, .int 0, .int 0, .ref 2, .ref 3, .ref 4, .ref 5, .ref 6, .ref 7, .ref 8]), .inl (0, (168, .inl fun _ => 0)), .inl (0, (512, .inl fun _ => 0)), .inl (0, (512, .inl fun _ => 0)), .inl (0, (1400, .inl fun _ => 0)), .inl (0, (1680, .inl fun _ => 0)), .inl (0, (840, .inl fun _ => 0)), .inl (1, (280, .inr (.inl fun _ => 0)))]
def zS : Hp := [.inr (1, [.ref 18, .int 0, .ref 19, .ref 20, .int 0]), .inl (0, (120, .inl fun _ => 0)), .inl (0, (120, .inl fun _ => 0)), .inl (0, (360, .inl fun _ => 0))]
def zV (f : Nat → Option Nat) : va_E := .inl (2, (4, .inr (.inr (.inr (.inr f)))))
def zA (f : Nat → Option Nat) : Hp := (.inr (3, [.ref 1, .ref 9, .ref 17, .ref 21, .int 0, .ref 22, .ref 23, .ref 24, .ref 25, .ref 26, .ref 27, .ref 28]) :: ([] ++ zL ++ z2 9 ++ zS ++ [zV f] ++ [.inl (0, (56, .inl fun _ => 0))] ++ [.inl (0, (10, .inl fun _ => 0))] ++ [.inl (0, (28, .inl fun _ => 0))] ++ [.inl (0, (8, .inl fun _ => 0))] ++ [.inl (0, (8, .inl fun _ => 0))] ++ [.inl (0, (8, .inl fun _ => 0))] ++ [.inl (0, (8, .inl fun _ => 0))] ++ z2 29 ++ z2 37 ++ z2 45 ++ z2 53) : Hp)
def z0 : Mem := (fun a => if a = 9 ∨ a = 29 ∨ a = 37 ∨ a = 45 ∨ a = 53 then (fun k => if k = 2 then -100 else 0) else fun _ => 0, fun _ _ => 0, fun i => if i = 3 then 53 else if i = 2 then 45 else if i = 1 then 37 else 29)
theorem zA_e : zA (fun i => if i < 4 then some (z0.V i) else none) = HA z0 := rfl
theorem zV_e : (va_up (va_up (va_up (va_up (fun _ => none) 0 (some 29)) 1 (some 37)) 2 (some 45)) 3 (some 53)) = fun i => if i < 4 then some (z0.V i) else none := by
  funext i
  show (if i = 3 then some 53 else if i = 2 then some 45 else if i = 1 then some 37 else if i = 0 then some 29 else none) = if i < 4 then some (if i = 3 then 53 else if i = 2 then 45 else if i = 1 then 37 else 29) else none
  by_cases c3 : i = 3
  · rw [if_pos c3, if_pos c3, if_pos (by omega)]
  · rw [if_neg c3, if_neg c3]
    by_cases c2 : i = 2
    · rw [if_pos c2, if_pos c2, if_pos (by omega)]
    · rw [if_neg c2, if_neg c2]
      by_cases c1 : i = 1
      · rw [if_pos c1, if_pos c1, if_pos (by omega)]
      · rw [if_neg c1, if_neg c1]
        by_cases c0 : i = 0
        · rw [if_pos c0, if_pos (by omega)]
        · rw [if_neg c0, if_neg (by omega)]
theorem X3_e : f_X3_init 0 [.inr (3, [.null, .null, .null, .null, .int 0, .null, .null, .null, .null, .null, .null, .null])] = (f_X2_clearFor 9 5 (HA z0)).bind fun h67 => (fR 3 0 h67 0).bind fun v68 => (f_X0_arrange v68 5 h67).bind fun h70 => some h70 := by
  unfold f_X3_init
  refine bnd (a := ()) rfl ?_
  refine bnd2 (a := 1) (b := (.inr (3, [.null, .null, .null, .null, .int 0, .null, .null, .null, .null, .null, .null, .null]) :: ([] ++ [.inr (0, [.int 0, .int 0, .int 0, .null, .null, .null, .null, .null, .null, .null])]) : Hp)) rfl ?_
  refine bnd (a := (.inr (3, [.null, .null, .null, .null, .int 0, .null, .null, .null, .null, .null, .null, .null]) :: ([] ++ zL) : Hp)) rfl ?_
  refine bnd (a := (.inr (3, [.ref 1, .null, .null, .null, .int 0, .null, .null, .null, .null, .null, .null, .null]) :: ([] ++ zL) : Hp)) rfl ?_
  refine bnd2 (a := 9) (b := (.inr (3, [.ref 1, .null, .null, .null, .int 0, .null, .null, .null, .null, .null, .null, .null]) :: ([] ++ zL ++ [f2c]) : Hp)) rfl ?_
  refine bnd (a := (.inr (3, [.ref 1, .null, .null, .null, .int 0, .null, .null, .null, .null, .null, .null, .null]) :: ([] ++ zL ++ z2 9) : Hp)) rfl ?_
  refine bnd (a := (.inr (3, [.ref 1, .ref 9, .null, .null, .int 0, .null, .null, .null, .null, .null, .null, .null]) :: ([] ++ zL ++ z2 9) : Hp)) rfl ?_
  refine bnd2 (a := 17) (b := (.inr (3, [.ref 1, .ref 9, .null, .null, .int 0, .null, .null, .null, .null, .null, .null, .null]) :: ([] ++ zL ++ z2 9 ++ [.inr (1, [.null, .int 0, .null, .null, .int 0])]) : Hp)) rfl ?_
  refine bnd (a := (.inr (3, [.ref 1, .ref 9, .null, .null, .int 0, .null, .null, .null, .null, .null, .null, .null]) :: ([] ++ zL ++ z2 9 ++ zS) : Hp)) rfl ?_
  refine bnd (a := (.inr (3, [.ref 1, .ref 9, .ref 17, .null, .int 0, .null, .null, .null, .null, .null, .null, .null]) :: ([] ++ zL ++ z2 9 ++ zS) : Hp)) rfl ?_
  refine bnd2 (a := 21) (b := (.inr (3, [.ref 1, .ref 9, .ref 17, .null, .int 0, .null, .null, .null, .null, .null, .null, .null]) :: ([] ++ zL ++ z2 9 ++ zS ++ [zV (fun _ => none)]) : Hp)) rfl ?_
  refine bnd (a := (.inr (3, [.ref 1, .ref 9, .ref 17, .ref 21, .int 0, .null, .null, .null, .null, .null, .null, .null]) :: ([] ++ zL ++ z2 9 ++ zS ++ [zV (fun _ => none)]) : Hp)) rfl ?_
  refine bnd (a := (.inr (3, [.ref 1, .ref 9, .ref 17, .ref 21, .int 0, .null, .null, .null, .null, .null, .null, .null]) :: ([] ++ zL ++ z2 9 ++ zS ++ [zV (fun _ => none)]) : Hp)) rfl ?_
  refine bnd2 (a := 22) (b := (.inr (3, [.ref 1, .ref 9, .ref 17, .ref 21, .int 0, .null, .null, .null, .null, .null, .null, .null]) :: ([] ++ zL ++ z2 9 ++ zS ++ [zV (fun _ => none)] ++ [.inl (0, (56, .inl fun _ => 0))]) : Hp)) rfl ?_
  refine bnd (a := (.inr (3, [.ref 1, .ref 9, .ref 17, .ref 21, .int 0, .ref 22, .null, .null, .null, .null, .null, .null]) :: ([] ++ zL ++ z2 9 ++ zS ++ [zV (fun _ => none)] ++ [.inl (0, (56, .inl fun _ => 0))]) : Hp)) rfl ?_
  refine bnd2 (a := 23) (b := (.inr (3, [.ref 1, .ref 9, .ref 17, .ref 21, .int 0, .ref 22, .null, .null, .null, .null, .null, .null]) :: ([] ++ zL ++ z2 9 ++ zS ++ [zV (fun _ => none)] ++ [.inl (0, (56, .inl fun _ => 0))] ++ [.inl (0, (10, .inl fun _ => 0))]) : Hp)) rfl ?_
  refine bnd (a := (.inr (3, [.ref 1, .ref 9, .ref 17, .ref 21, .int 0, .ref 22, .ref 23, .null, .null, .null, .null, .null]) :: ([] ++ zL ++ z2 9 ++ zS ++ [zV (fun _ => none)] ++ [.inl (0, (56, .inl fun _ => 0))] ++ [.inl (0, (10, .inl fun _ => 0))]) : Hp)) rfl ?_
  refine bnd2 (a := 24) (b := (.inr (3, [.ref 1, .ref 9, .ref 17, .ref 21, .int 0, .ref 22, .ref 23, .null, .null, .null, .null, .null]) :: ([] ++ zL ++ z2 9 ++ zS ++ [zV (fun _ => none)] ++ [.inl (0, (56, .inl fun _ => 0))] ++ [.inl (0, (10, .inl fun _ => 0))] ++ [.inl (0, (28, .inl fun _ => 0))]) : Hp)) rfl ?_
  refine bnd (a := (.inr (3, [.ref 1, .ref 9, .ref 17, .ref 21, .int 0, .ref 22, .ref 23, .ref 24, .null, .null, .null, .null]) :: ([] ++ zL ++ z2 9 ++ zS ++ [zV (fun _ => none)] ++ [.inl (0, (56, .inl fun _ => 0))] ++ [.inl (0, (10, .inl fun _ => 0))] ++ [.inl (0, (28, .inl fun _ => 0))]) : Hp)) rfl ?_
  refine bnd2 (a := 25) (b := (.inr (3, [.ref 1, .ref 9, .ref 17, .ref 21, .int 0, .ref 22, .ref 23, .ref 24, .null, .null, .null, .null]) :: ([] ++ zL ++ z2 9 ++ zS ++ [zV (fun _ => none)] ++ [.inl (0, (56, .inl fun _ => 0))] ++ [.inl (0, (10, .inl fun _ => 0))] ++ [.inl (0, (28, .inl fun _ => 0))] ++ [.inl (0, (8, .inl fun _ => 0))]) : Hp)) rfl ?_
  refine bnd (a := (.inr (3, [.ref 1, .ref 9, .ref 17, .ref 21, .int 0, .ref 22, .ref 23, .ref 24, .ref 25, .null, .null, .null]) :: ([] ++ zL ++ z2 9 ++ zS ++ [zV (fun _ => none)] ++ [.inl (0, (56, .inl fun _ => 0))] ++ [.inl (0, (10, .inl fun _ => 0))] ++ [.inl (0, (28, .inl fun _ => 0))] ++ [.inl (0, (8, .inl fun _ => 0))]) : Hp)) rfl ?_
  refine bnd2 (a := 26) (b := (.inr (3, [.ref 1, .ref 9, .ref 17, .ref 21, .int 0, .ref 22, .ref 23, .ref 24, .ref 25, .null, .null, .null]) :: ([] ++ zL ++ z2 9 ++ zS ++ [zV (fun _ => none)] ++ [.inl (0, (56, .inl fun _ => 0))] ++ [.inl (0, (10, .inl fun _ => 0))] ++ [.inl (0, (28, .inl fun _ => 0))] ++ [.inl (0, (8, .inl fun _ => 0))] ++ [.inl (0, (8, .inl fun _ => 0))]) : Hp)) rfl ?_
  refine bnd (a := (.inr (3, [.ref 1, .ref 9, .ref 17, .ref 21, .int 0, .ref 22, .ref 23, .ref 24, .ref 25, .ref 26, .null, .null]) :: ([] ++ zL ++ z2 9 ++ zS ++ [zV (fun _ => none)] ++ [.inl (0, (56, .inl fun _ => 0))] ++ [.inl (0, (10, .inl fun _ => 0))] ++ [.inl (0, (28, .inl fun _ => 0))] ++ [.inl (0, (8, .inl fun _ => 0))] ++ [.inl (0, (8, .inl fun _ => 0))]) : Hp)) rfl ?_
  refine bnd2 (a := 27) (b := (.inr (3, [.ref 1, .ref 9, .ref 17, .ref 21, .int 0, .ref 22, .ref 23, .ref 24, .ref 25, .ref 26, .null, .null]) :: ([] ++ zL ++ z2 9 ++ zS ++ [zV (fun _ => none)] ++ [.inl (0, (56, .inl fun _ => 0))] ++ [.inl (0, (10, .inl fun _ => 0))] ++ [.inl (0, (28, .inl fun _ => 0))] ++ [.inl (0, (8, .inl fun _ => 0))] ++ [.inl (0, (8, .inl fun _ => 0))] ++ [.inl (0, (8, .inl fun _ => 0))]) : Hp)) rfl ?_
  refine bnd (a := (.inr (3, [.ref 1, .ref 9, .ref 17, .ref 21, .int 0, .ref 22, .ref 23, .ref 24, .ref 25, .ref 26, .ref 27, .null]) :: ([] ++ zL ++ z2 9 ++ zS ++ [zV (fun _ => none)] ++ [.inl (0, (56, .inl fun _ => 0))] ++ [.inl (0, (10, .inl fun _ => 0))] ++ [.inl (0, (28, .inl fun _ => 0))] ++ [.inl (0, (8, .inl fun _ => 0))] ++ [.inl (0, (8, .inl fun _ => 0))] ++ [.inl (0, (8, .inl fun _ => 0))]) : Hp)) rfl ?_
  refine bnd2 (a := 28) (b := (.inr (3, [.ref 1, .ref 9, .ref 17, .ref 21, .int 0, .ref 22, .ref 23, .ref 24, .ref 25, .ref 26, .ref 27, .null]) :: ([] ++ zL ++ z2 9 ++ zS ++ [zV (fun _ => none)] ++ [.inl (0, (56, .inl fun _ => 0))] ++ [.inl (0, (10, .inl fun _ => 0))] ++ [.inl (0, (28, .inl fun _ => 0))] ++ [.inl (0, (8, .inl fun _ => 0))] ++ [.inl (0, (8, .inl fun _ => 0))] ++ [.inl (0, (8, .inl fun _ => 0))] ++ [.inl (0, (8, .inl fun _ => 0))]) : Hp)) rfl ?_
  refine bnd (a := (.inr (3, [.ref 1, .ref 9, .ref 17, .ref 21, .int 0, .ref 22, .ref 23, .ref 24, .ref 25, .ref 26, .ref 27, .ref 28]) :: ([] ++ zL ++ z2 9 ++ zS ++ [zV (fun _ => none)] ++ [.inl (0, (56, .inl fun _ => 0))] ++ [.inl (0, (10, .inl fun _ => 0))] ++ [.inl (0, (28, .inl fun _ => 0))] ++ [.inl (0, (8, .inl fun _ => 0))] ++ [.inl (0, (8, .inl fun _ => 0))] ++ [.inl (0, (8, .inl fun _ => 0))] ++ [.inl (0, (8, .inl fun _ => 0))]) : Hp)) rfl ?_
  refine bnd (a := 21) rfl ?_
  refine bnd2 (a := 29) (b := (.inr (3, [.ref 1, .ref 9, .ref 17, .ref 21, .int 0, .ref 22, .ref 23, .ref 24, .ref 25, .ref 26, .ref 27, .ref 28]) :: ([] ++ zL ++ z2 9 ++ zS ++ [zV (fun _ => none)] ++ [.inl (0, (56, .inl fun _ => 0))] ++ [.inl (0, (10, .inl fun _ => 0))] ++ [.inl (0, (28, .inl fun _ => 0))] ++ [.inl (0, (8, .inl fun _ => 0))] ++ [.inl (0, (8, .inl fun _ => 0))] ++ [.inl (0, (8, .inl fun _ => 0))] ++ [.inl (0, (8, .inl fun _ => 0))] ++ [f2c]) : Hp)) rfl ?_
  refine bnd (a := (.inr (3, [.ref 1, .ref 9, .ref 17, .ref 21, .int 0, .ref 22, .ref 23, .ref 24, .ref 25, .ref 26, .ref 27, .ref 28]) :: ([] ++ zL ++ z2 9 ++ zS ++ [zV (fun _ => none)] ++ [.inl (0, (56, .inl fun _ => 0))] ++ [.inl (0, (10, .inl fun _ => 0))] ++ [.inl (0, (28, .inl fun _ => 0))] ++ [.inl (0, (8, .inl fun _ => 0))] ++ [.inl (0, (8, .inl fun _ => 0))] ++ [.inl (0, (8, .inl fun _ => 0))] ++ [.inl (0, (8, .inl fun _ => 0))] ++ z2 29) : Hp)) rfl ?_
  refine bnd (a := (.inr (3, [.ref 1, .ref 9, .ref 17, .ref 21, .int 0, .ref 22, .ref 23, .ref 24, .ref 25, .ref 26, .ref 27, .ref 28]) :: ([] ++ zL ++ z2 9 ++ zS ++ [zV (va_up (fun _ => none) 0 (some 29))] ++ [.inl (0, (56, .inl fun _ => 0))] ++ [.inl (0, (10, .inl fun _ => 0))] ++ [.inl (0, (28, .inl fun _ => 0))] ++ [.inl (0, (8, .inl fun _ => 0))] ++ [.inl (0, (8, .inl fun _ => 0))] ++ [.inl (0, (8, .inl fun _ => 0))] ++ [.inl (0, (8, .inl fun _ => 0))] ++ z2 29) : Hp)) rfl ?_
  refine bnd (a := 21) rfl ?_
  refine bnd2 (a := 37) (b := (.inr (3, [.ref 1, .ref 9, .ref 17, .ref 21, .int 0, .ref 22, .ref 23, .ref 24, .ref 25, .ref 26, .ref 27, .ref 28]) :: ([] ++ zL ++ z2 9 ++ zS ++ [zV (va_up (fun _ => none) 0 (some 29))] ++ [.inl (0, (56, .inl fun _ => 0))] ++ [.inl (0, (10, .inl fun _ => 0))] ++ [.inl (0, (28, .inl fun _ => 0))] ++ [.inl (0, (8, .inl fun _ => 0))] ++ [.inl (0, (8, .inl fun _ => 0))] ++ [.inl (0, (8, .inl fun _ => 0))] ++ [.inl (0, (8, .inl fun _ => 0))] ++ z2 29 ++ [f2c]) : Hp)) rfl ?_
  refine bnd (a := (.inr (3, [.ref 1, .ref 9, .ref 17, .ref 21, .int 0, .ref 22, .ref 23, .ref 24, .ref 25, .ref 26, .ref 27, .ref 28]) :: ([] ++ zL ++ z2 9 ++ zS ++ [zV (va_up (fun _ => none) 0 (some 29))] ++ [.inl (0, (56, .inl fun _ => 0))] ++ [.inl (0, (10, .inl fun _ => 0))] ++ [.inl (0, (28, .inl fun _ => 0))] ++ [.inl (0, (8, .inl fun _ => 0))] ++ [.inl (0, (8, .inl fun _ => 0))] ++ [.inl (0, (8, .inl fun _ => 0))] ++ [.inl (0, (8, .inl fun _ => 0))] ++ z2 29 ++ z2 37) : Hp)) rfl ?_
  refine bnd (a := (.inr (3, [.ref 1, .ref 9, .ref 17, .ref 21, .int 0, .ref 22, .ref 23, .ref 24, .ref 25, .ref 26, .ref 27, .ref 28]) :: ([] ++ zL ++ z2 9 ++ zS ++ [zV (va_up (va_up (fun _ => none) 0 (some 29)) 1 (some 37))] ++ [.inl (0, (56, .inl fun _ => 0))] ++ [.inl (0, (10, .inl fun _ => 0))] ++ [.inl (0, (28, .inl fun _ => 0))] ++ [.inl (0, (8, .inl fun _ => 0))] ++ [.inl (0, (8, .inl fun _ => 0))] ++ [.inl (0, (8, .inl fun _ => 0))] ++ [.inl (0, (8, .inl fun _ => 0))] ++ z2 29 ++ z2 37) : Hp)) rfl ?_
  refine bnd (a := 21) rfl ?_
  refine bnd2 (a := 45) (b := (.inr (3, [.ref 1, .ref 9, .ref 17, .ref 21, .int 0, .ref 22, .ref 23, .ref 24, .ref 25, .ref 26, .ref 27, .ref 28]) :: ([] ++ zL ++ z2 9 ++ zS ++ [zV (va_up (va_up (fun _ => none) 0 (some 29)) 1 (some 37))] ++ [.inl (0, (56, .inl fun _ => 0))] ++ [.inl (0, (10, .inl fun _ => 0))] ++ [.inl (0, (28, .inl fun _ => 0))] ++ [.inl (0, (8, .inl fun _ => 0))] ++ [.inl (0, (8, .inl fun _ => 0))] ++ [.inl (0, (8, .inl fun _ => 0))] ++ [.inl (0, (8, .inl fun _ => 0))] ++ z2 29 ++ z2 37 ++ [f2c]) : Hp)) rfl ?_
  refine bnd (a := (.inr (3, [.ref 1, .ref 9, .ref 17, .ref 21, .int 0, .ref 22, .ref 23, .ref 24, .ref 25, .ref 26, .ref 27, .ref 28]) :: ([] ++ zL ++ z2 9 ++ zS ++ [zV (va_up (va_up (fun _ => none) 0 (some 29)) 1 (some 37))] ++ [.inl (0, (56, .inl fun _ => 0))] ++ [.inl (0, (10, .inl fun _ => 0))] ++ [.inl (0, (28, .inl fun _ => 0))] ++ [.inl (0, (8, .inl fun _ => 0))] ++ [.inl (0, (8, .inl fun _ => 0))] ++ [.inl (0, (8, .inl fun _ => 0))] ++ [.inl (0, (8, .inl fun _ => 0))] ++ z2 29 ++ z2 37 ++ z2 45) : Hp)) rfl ?_
  refine bnd (a := (.inr (3, [.ref 1, .ref 9, .ref 17, .ref 21, .int 0, .ref 22, .ref 23, .ref 24, .ref 25, .ref 26, .ref 27, .ref 28]) :: ([] ++ zL ++ z2 9 ++ zS ++ [zV (va_up (va_up (va_up (fun _ => none) 0 (some 29)) 1 (some 37)) 2 (some 45))] ++ [.inl (0, (56, .inl fun _ => 0))] ++ [.inl (0, (10, .inl fun _ => 0))] ++ [.inl (0, (28, .inl fun _ => 0))] ++ [.inl (0, (8, .inl fun _ => 0))] ++ [.inl (0, (8, .inl fun _ => 0))] ++ [.inl (0, (8, .inl fun _ => 0))] ++ [.inl (0, (8, .inl fun _ => 0))] ++ z2 29 ++ z2 37 ++ z2 45) : Hp)) rfl ?_
  refine bnd (a := 21) rfl ?_
  refine bnd2 (a := 53) (b := (.inr (3, [.ref 1, .ref 9, .ref 17, .ref 21, .int 0, .ref 22, .ref 23, .ref 24, .ref 25, .ref 26, .ref 27, .ref 28]) :: ([] ++ zL ++ z2 9 ++ zS ++ [zV (va_up (va_up (va_up (fun _ => none) 0 (some 29)) 1 (some 37)) 2 (some 45))] ++ [.inl (0, (56, .inl fun _ => 0))] ++ [.inl (0, (10, .inl fun _ => 0))] ++ [.inl (0, (28, .inl fun _ => 0))] ++ [.inl (0, (8, .inl fun _ => 0))] ++ [.inl (0, (8, .inl fun _ => 0))] ++ [.inl (0, (8, .inl fun _ => 0))] ++ [.inl (0, (8, .inl fun _ => 0))] ++ z2 29 ++ z2 37 ++ z2 45 ++ [f2c]) : Hp)) rfl ?_
  refine bnd (a := (.inr (3, [.ref 1, .ref 9, .ref 17, .ref 21, .int 0, .ref 22, .ref 23, .ref 24, .ref 25, .ref 26, .ref 27, .ref 28]) :: ([] ++ zL ++ z2 9 ++ zS ++ [zV (va_up (va_up (va_up (fun _ => none) 0 (some 29)) 1 (some 37)) 2 (some 45))] ++ [.inl (0, (56, .inl fun _ => 0))] ++ [.inl (0, (10, .inl fun _ => 0))] ++ [.inl (0, (28, .inl fun _ => 0))] ++ [.inl (0, (8, .inl fun _ => 0))] ++ [.inl (0, (8, .inl fun _ => 0))] ++ [.inl (0, (8, .inl fun _ => 0))] ++ [.inl (0, (8, .inl fun _ => 0))] ++ z2 29 ++ z2 37 ++ z2 45 ++ z2 53) : Hp)) rfl ?_
  refine bnd (a := (.inr (3, [.ref 1, .ref 9, .ref 17, .ref 21, .int 0, .ref 22, .ref 23, .ref 24, .ref 25, .ref 26, .ref 27, .ref 28]) :: ([] ++ zL ++ z2 9 ++ zS ++ [zV (va_up (va_up (va_up (va_up (fun _ => none) 0 (some 29)) 1 (some 37)) 2 (some 45)) 3 (some 53))] ++ [.inl (0, (56, .inl fun _ => 0))] ++ [.inl (0, (10, .inl fun _ => 0))] ++ [.inl (0, (28, .inl fun _ => 0))] ++ [.inl (0, (8, .inl fun _ => 0))] ++ [.inl (0, (8, .inl fun _ => 0))] ++ [.inl (0, (8, .inl fun _ => 0))] ++ [.inl (0, (8, .inl fun _ => 0))] ++ z2 29 ++ z2 37 ++ z2 45 ++ z2 53) : Hp)) rfl ?_
  refine bnd (a := 9) rfl ?_
  rw [← zA_e, ← zV_e]
  rfl
def z1 (m : Mem) : Mem := (fun a => if a < 61 then m.I a else fun _ => 0, fun a => if a < 61 then m.J a else fun _ => 0, m.V)
theorem zB_e (m : Mem) : (HA m ++ (.inr (4, [.ref 62, .ref 63, .ref 64, .int 0, .ref 65, .int 0, .int 0, .ref 66, .ref 67, .int 0, .ref 68, .int 0, .int 0, .ref 69, .ref 70, .ref 71, .ref 72, .ref 73, .ref 74, .ref 75, .int 0, .int 0, .ref 76, .long 0]) :: [.inl (0, (243, .inl fun _ => 0)), .inl (0, (972, .inl fun _ => 0)), .inl (0, (243, .inl fun _ => 0)), .inl (0, (120, .inl fun _ => 0)), .inl (0, (168, .inl fun _ => 0)), .inl (0, (512, .inl fun _ => 0)), .inl (0, (1400, .inl fun _ => 0)), .inl (0, (6, .inl fun _ => 0)), .inl (0, (6, .inl fun _ => 0)), .inl (0, (56, .inl fun _ => 0)), .inl (1, (56, .inr (.inl fun _ => 0))), .inl (0, (10, .inl fun _ => 0)), .inl (0, (28, .inl fun _ => 0)), .inl (0, (16, .inl fun _ => 0)), .inl (0, (3, .inl fun _ => 0))]) : Hp) = HB (z1 m) := rfl
theorem X4_e (m : Mem) : f_X4_init 61 (HA m ++ [.inr (4, [.null, .null, .null, .int 0, .null, .int 0, .int 0, .null, .null, .int 0, .null, .int 0, .int 0, .null, .null, .null, .null, .null, .null, .null, .int 0, .int 0, .null, .long 0])]) = (f_X4_begins 61 5 (HB (z1 m))).bind fun h47 => some h47 := by
  unfold f_X4_init
  refine bnd (a := ()) rfl ?_
  refine bnd2 (a := 62) (b := (HA m ++ (.inr (4, [.null, .null, .null, .int 0, .null, .int 0, .int 0, .null, .null, .int 0, .null, .int 0, .int 0, .null, .null, .null, .null, .null, .null, .null, .int 0, .int 0, .null, .long 0]) :: [.inl (0, (243, .inl fun _ => 0))]) : Hp)) rfl ?_
  refine bnd (a := (HA m ++ (.inr (4, [.ref 62, .null, .null, .int 0, .null, .int 0, .int 0, .null, .null, .int 0, .null, .int 0, .int 0, .null, .null, .null, .null, .null, .null, .null, .int 0, .int 0, .null, .long 0]) :: [.inl (0, (243, .inl fun _ => 0))]) : Hp)) rfl ?_
  refine bnd2 (a := 63) (b := (HA m ++ (.inr (4, [.ref 62, .null, .null, .int 0, .null, .int 0, .int 0, .null, .null, .int 0, .null, .int 0, .int 0, .null, .null, .null, .null, .null, .null, .null, .int 0, .int 0, .null, .long 0]) :: [.inl (0, (243, .inl fun _ => 0)), .inl (0, (972, .inl fun _ => 0))]) : Hp)) rfl ?_
  refine bnd (a := (HA m ++ (.inr (4, [.ref 62, .ref 63, .null, .int 0, .null, .int 0, .int 0, .null, .null, .int 0, .null, .int 0, .int 0, .null, .null, .null, .null, .null, .null, .null, .int 0, .int 0, .null, .long 0]) :: [.inl (0, (243, .inl fun _ => 0)), .inl (0, (972, .inl fun _ => 0))]) : Hp)) rfl ?_
  refine bnd2 (a := 64) (b := (HA m ++ (.inr (4, [.ref 62, .ref 63, .null, .int 0, .null, .int 0, .int 0, .null, .null, .int 0, .null, .int 0, .int 0, .null, .null, .null, .null, .null, .null, .null, .int 0, .int 0, .null, .long 0]) :: [.inl (0, (243, .inl fun _ => 0)), .inl (0, (972, .inl fun _ => 0)), .inl (0, (243, .inl fun _ => 0))]) : Hp)) rfl ?_
  refine bnd (a := (HA m ++ (.inr (4, [.ref 62, .ref 63, .ref 64, .int 0, .null, .int 0, .int 0, .null, .null, .int 0, .null, .int 0, .int 0, .null, .null, .null, .null, .null, .null, .null, .int 0, .int 0, .null, .long 0]) :: [.inl (0, (243, .inl fun _ => 0)), .inl (0, (972, .inl fun _ => 0)), .inl (0, (243, .inl fun _ => 0))]) : Hp)) rfl ?_
  refine bnd2 (a := 65) (b := (HA m ++ (.inr (4, [.ref 62, .ref 63, .ref 64, .int 0, .null, .int 0, .int 0, .null, .null, .int 0, .null, .int 0, .int 0, .null, .null, .null, .null, .null, .null, .null, .int 0, .int 0, .null, .long 0]) :: [.inl (0, (243, .inl fun _ => 0)), .inl (0, (972, .inl fun _ => 0)), .inl (0, (243, .inl fun _ => 0)), .inl (0, (120, .inl fun _ => 0))]) : Hp)) rfl ?_
  refine bnd (a := (HA m ++ (.inr (4, [.ref 62, .ref 63, .ref 64, .int 0, .ref 65, .int 0, .int 0, .null, .null, .int 0, .null, .int 0, .int 0, .null, .null, .null, .null, .null, .null, .null, .int 0, .int 0, .null, .long 0]) :: [.inl (0, (243, .inl fun _ => 0)), .inl (0, (972, .inl fun _ => 0)), .inl (0, (243, .inl fun _ => 0)), .inl (0, (120, .inl fun _ => 0))]) : Hp)) rfl ?_
  refine bnd2 (a := 66) (b := (HA m ++ (.inr (4, [.ref 62, .ref 63, .ref 64, .int 0, .ref 65, .int 0, .int 0, .null, .null, .int 0, .null, .int 0, .int 0, .null, .null, .null, .null, .null, .null, .null, .int 0, .int 0, .null, .long 0]) :: [.inl (0, (243, .inl fun _ => 0)), .inl (0, (972, .inl fun _ => 0)), .inl (0, (243, .inl fun _ => 0)), .inl (0, (120, .inl fun _ => 0)), .inl (0, (168, .inl fun _ => 0))]) : Hp)) rfl ?_
  refine bnd (a := (HA m ++ (.inr (4, [.ref 62, .ref 63, .ref 64, .int 0, .ref 65, .int 0, .int 0, .ref 66, .null, .int 0, .null, .int 0, .int 0, .null, .null, .null, .null, .null, .null, .null, .int 0, .int 0, .null, .long 0]) :: [.inl (0, (243, .inl fun _ => 0)), .inl (0, (972, .inl fun _ => 0)), .inl (0, (243, .inl fun _ => 0)), .inl (0, (120, .inl fun _ => 0)), .inl (0, (168, .inl fun _ => 0))]) : Hp)) rfl ?_
  refine bnd2 (a := 67) (b := (HA m ++ (.inr (4, [.ref 62, .ref 63, .ref 64, .int 0, .ref 65, .int 0, .int 0, .ref 66, .null, .int 0, .null, .int 0, .int 0, .null, .null, .null, .null, .null, .null, .null, .int 0, .int 0, .null, .long 0]) :: [.inl (0, (243, .inl fun _ => 0)), .inl (0, (972, .inl fun _ => 0)), .inl (0, (243, .inl fun _ => 0)), .inl (0, (120, .inl fun _ => 0)), .inl (0, (168, .inl fun _ => 0)), .inl (0, (512, .inl fun _ => 0))]) : Hp)) rfl ?_
  refine bnd (a := (HA m ++ (.inr (4, [.ref 62, .ref 63, .ref 64, .int 0, .ref 65, .int 0, .int 0, .ref 66, .ref 67, .int 0, .null, .int 0, .int 0, .null, .null, .null, .null, .null, .null, .null, .int 0, .int 0, .null, .long 0]) :: [.inl (0, (243, .inl fun _ => 0)), .inl (0, (972, .inl fun _ => 0)), .inl (0, (243, .inl fun _ => 0)), .inl (0, (120, .inl fun _ => 0)), .inl (0, (168, .inl fun _ => 0)), .inl (0, (512, .inl fun _ => 0))]) : Hp)) rfl ?_
  refine bnd2 (a := 68) (b := (HA m ++ (.inr (4, [.ref 62, .ref 63, .ref 64, .int 0, .ref 65, .int 0, .int 0, .ref 66, .ref 67, .int 0, .null, .int 0, .int 0, .null, .null, .null, .null, .null, .null, .null, .int 0, .int 0, .null, .long 0]) :: [.inl (0, (243, .inl fun _ => 0)), .inl (0, (972, .inl fun _ => 0)), .inl (0, (243, .inl fun _ => 0)), .inl (0, (120, .inl fun _ => 0)), .inl (0, (168, .inl fun _ => 0)), .inl (0, (512, .inl fun _ => 0)), .inl (0, (1400, .inl fun _ => 0))]) : Hp)) rfl ?_
  refine bnd (a := (HA m ++ (.inr (4, [.ref 62, .ref 63, .ref 64, .int 0, .ref 65, .int 0, .int 0, .ref 66, .ref 67, .int 0, .ref 68, .int 0, .int 0, .null, .null, .null, .null, .null, .null, .null, .int 0, .int 0, .null, .long 0]) :: [.inl (0, (243, .inl fun _ => 0)), .inl (0, (972, .inl fun _ => 0)), .inl (0, (243, .inl fun _ => 0)), .inl (0, (120, .inl fun _ => 0)), .inl (0, (168, .inl fun _ => 0)), .inl (0, (512, .inl fun _ => 0)), .inl (0, (1400, .inl fun _ => 0))]) : Hp)) rfl ?_
  refine bnd2 (a := 69) (b := (HA m ++ (.inr (4, [.ref 62, .ref 63, .ref 64, .int 0, .ref 65, .int 0, .int 0, .ref 66, .ref 67, .int 0, .ref 68, .int 0, .int 0, .null, .null, .null, .null, .null, .null, .null, .int 0, .int 0, .null, .long 0]) :: [.inl (0, (243, .inl fun _ => 0)), .inl (0, (972, .inl fun _ => 0)), .inl (0, (243, .inl fun _ => 0)), .inl (0, (120, .inl fun _ => 0)), .inl (0, (168, .inl fun _ => 0)), .inl (0, (512, .inl fun _ => 0)), .inl (0, (1400, .inl fun _ => 0)), .inl (0, (6, .inl fun _ => 0))]) : Hp)) rfl ?_
  refine bnd (a := (HA m ++ (.inr (4, [.ref 62, .ref 63, .ref 64, .int 0, .ref 65, .int 0, .int 0, .ref 66, .ref 67, .int 0, .ref 68, .int 0, .int 0, .ref 69, .null, .null, .null, .null, .null, .null, .int 0, .int 0, .null, .long 0]) :: [.inl (0, (243, .inl fun _ => 0)), .inl (0, (972, .inl fun _ => 0)), .inl (0, (243, .inl fun _ => 0)), .inl (0, (120, .inl fun _ => 0)), .inl (0, (168, .inl fun _ => 0)), .inl (0, (512, .inl fun _ => 0)), .inl (0, (1400, .inl fun _ => 0)), .inl (0, (6, .inl fun _ => 0))]) : Hp)) rfl ?_
  refine bnd2 (a := 70) (b := (HA m ++ (.inr (4, [.ref 62, .ref 63, .ref 64, .int 0, .ref 65, .int 0, .int 0, .ref 66, .ref 67, .int 0, .ref 68, .int 0, .int 0, .ref 69, .null, .null, .null, .null, .null, .null, .int 0, .int 0, .null, .long 0]) :: [.inl (0, (243, .inl fun _ => 0)), .inl (0, (972, .inl fun _ => 0)), .inl (0, (243, .inl fun _ => 0)), .inl (0, (120, .inl fun _ => 0)), .inl (0, (168, .inl fun _ => 0)), .inl (0, (512, .inl fun _ => 0)), .inl (0, (1400, .inl fun _ => 0)), .inl (0, (6, .inl fun _ => 0)), .inl (0, (6, .inl fun _ => 0))]) : Hp)) rfl ?_
  refine bnd (a := (HA m ++ (.inr (4, [.ref 62, .ref 63, .ref 64, .int 0, .ref 65, .int 0, .int 0, .ref 66, .ref 67, .int 0, .ref 68, .int 0, .int 0, .ref 69, .ref 70, .null, .null, .null, .null, .null, .int 0, .int 0, .null, .long 0]) :: [.inl (0, (243, .inl fun _ => 0)), .inl (0, (972, .inl fun _ => 0)), .inl (0, (243, .inl fun _ => 0)), .inl (0, (120, .inl fun _ => 0)), .inl (0, (168, .inl fun _ => 0)), .inl (0, (512, .inl fun _ => 0)), .inl (0, (1400, .inl fun _ => 0)), .inl (0, (6, .inl fun _ => 0)), .inl (0, (6, .inl fun _ => 0))]) : Hp)) rfl ?_
  refine bnd2 (a := 71) (b := (HA m ++ (.inr (4, [.ref 62, .ref 63, .ref 64, .int 0, .ref 65, .int 0, .int 0, .ref 66, .ref 67, .int 0, .ref 68, .int 0, .int 0, .ref 69, .ref 70, .null, .null, .null, .null, .null, .int 0, .int 0, .null, .long 0]) :: [.inl (0, (243, .inl fun _ => 0)), .inl (0, (972, .inl fun _ => 0)), .inl (0, (243, .inl fun _ => 0)), .inl (0, (120, .inl fun _ => 0)), .inl (0, (168, .inl fun _ => 0)), .inl (0, (512, .inl fun _ => 0)), .inl (0, (1400, .inl fun _ => 0)), .inl (0, (6, .inl fun _ => 0)), .inl (0, (6, .inl fun _ => 0)), .inl (0, (56, .inl fun _ => 0))]) : Hp)) rfl ?_
  refine bnd (a := (HA m ++ (.inr (4, [.ref 62, .ref 63, .ref 64, .int 0, .ref 65, .int 0, .int 0, .ref 66, .ref 67, .int 0, .ref 68, .int 0, .int 0, .ref 69, .ref 70, .ref 71, .null, .null, .null, .null, .int 0, .int 0, .null, .long 0]) :: [.inl (0, (243, .inl fun _ => 0)), .inl (0, (972, .inl fun _ => 0)), .inl (0, (243, .inl fun _ => 0)), .inl (0, (120, .inl fun _ => 0)), .inl (0, (168, .inl fun _ => 0)), .inl (0, (512, .inl fun _ => 0)), .inl (0, (1400, .inl fun _ => 0)), .inl (0, (6, .inl fun _ => 0)), .inl (0, (6, .inl fun _ => 0)), .inl (0, (56, .inl fun _ => 0))]) : Hp)) rfl ?_
  refine bnd2 (a := 72) (b := (HA m ++ (.inr (4, [.ref 62, .ref 63, .ref 64, .int 0, .ref 65, .int 0, .int 0, .ref 66, .ref 67, .int 0, .ref 68, .int 0, .int 0, .ref 69, .ref 70, .ref 71, .null, .null, .null, .null, .int 0, .int 0, .null, .long 0]) :: [.inl (0, (243, .inl fun _ => 0)), .inl (0, (972, .inl fun _ => 0)), .inl (0, (243, .inl fun _ => 0)), .inl (0, (120, .inl fun _ => 0)), .inl (0, (168, .inl fun _ => 0)), .inl (0, (512, .inl fun _ => 0)), .inl (0, (1400, .inl fun _ => 0)), .inl (0, (6, .inl fun _ => 0)), .inl (0, (6, .inl fun _ => 0)), .inl (0, (56, .inl fun _ => 0)), .inl (1, (56, .inr (.inl fun _ => 0)))]) : Hp)) rfl ?_
  refine bnd (a := (HA m ++ (.inr (4, [.ref 62, .ref 63, .ref 64, .int 0, .ref 65, .int 0, .int 0, .ref 66, .ref 67, .int 0, .ref 68, .int 0, .int 0, .ref 69, .ref 70, .ref 71, .ref 72, .null, .null, .null, .int 0, .int 0, .null, .long 0]) :: [.inl (0, (243, .inl fun _ => 0)), .inl (0, (972, .inl fun _ => 0)), .inl (0, (243, .inl fun _ => 0)), .inl (0, (120, .inl fun _ => 0)), .inl (0, (168, .inl fun _ => 0)), .inl (0, (512, .inl fun _ => 0)), .inl (0, (1400, .inl fun _ => 0)), .inl (0, (6, .inl fun _ => 0)), .inl (0, (6, .inl fun _ => 0)), .inl (0, (56, .inl fun _ => 0)), .inl (1, (56, .inr (.inl fun _ => 0)))]) : Hp)) rfl ?_
  refine bnd2 (a := 73) (b := (HA m ++ (.inr (4, [.ref 62, .ref 63, .ref 64, .int 0, .ref 65, .int 0, .int 0, .ref 66, .ref 67, .int 0, .ref 68, .int 0, .int 0, .ref 69, .ref 70, .ref 71, .ref 72, .null, .null, .null, .int 0, .int 0, .null, .long 0]) :: [.inl (0, (243, .inl fun _ => 0)), .inl (0, (972, .inl fun _ => 0)), .inl (0, (243, .inl fun _ => 0)), .inl (0, (120, .inl fun _ => 0)), .inl (0, (168, .inl fun _ => 0)), .inl (0, (512, .inl fun _ => 0)), .inl (0, (1400, .inl fun _ => 0)), .inl (0, (6, .inl fun _ => 0)), .inl (0, (6, .inl fun _ => 0)), .inl (0, (56, .inl fun _ => 0)), .inl (1, (56, .inr (.inl fun _ => 0))), .inl (0, (10, .inl fun _ => 0))]) : Hp)) rfl ?_
  refine bnd (a := (HA m ++ (.inr (4, [.ref 62, .ref 63, .ref 64, .int 0, .ref 65, .int 0, .int 0, .ref 66, .ref 67, .int 0, .ref 68, .int 0, .int 0, .ref 69, .ref 70, .ref 71, .ref 72, .ref 73, .null, .null, .int 0, .int 0, .null, .long 0]) :: [.inl (0, (243, .inl fun _ => 0)), .inl (0, (972, .inl fun _ => 0)), .inl (0, (243, .inl fun _ => 0)), .inl (0, (120, .inl fun _ => 0)), .inl (0, (168, .inl fun _ => 0)), .inl (0, (512, .inl fun _ => 0)), .inl (0, (1400, .inl fun _ => 0)), .inl (0, (6, .inl fun _ => 0)), .inl (0, (6, .inl fun _ => 0)), .inl (0, (56, .inl fun _ => 0)), .inl (1, (56, .inr (.inl fun _ => 0))), .inl (0, (10, .inl fun _ => 0))]) : Hp)) rfl ?_
  refine bnd2 (a := 74) (b := (HA m ++ (.inr (4, [.ref 62, .ref 63, .ref 64, .int 0, .ref 65, .int 0, .int 0, .ref 66, .ref 67, .int 0, .ref 68, .int 0, .int 0, .ref 69, .ref 70, .ref 71, .ref 72, .ref 73, .null, .null, .int 0, .int 0, .null, .long 0]) :: [.inl (0, (243, .inl fun _ => 0)), .inl (0, (972, .inl fun _ => 0)), .inl (0, (243, .inl fun _ => 0)), .inl (0, (120, .inl fun _ => 0)), .inl (0, (168, .inl fun _ => 0)), .inl (0, (512, .inl fun _ => 0)), .inl (0, (1400, .inl fun _ => 0)), .inl (0, (6, .inl fun _ => 0)), .inl (0, (6, .inl fun _ => 0)), .inl (0, (56, .inl fun _ => 0)), .inl (1, (56, .inr (.inl fun _ => 0))), .inl (0, (10, .inl fun _ => 0)), .inl (0, (28, .inl fun _ => 0))]) : Hp)) rfl ?_
  refine bnd (a := (HA m ++ (.inr (4, [.ref 62, .ref 63, .ref 64, .int 0, .ref 65, .int 0, .int 0, .ref 66, .ref 67, .int 0, .ref 68, .int 0, .int 0, .ref 69, .ref 70, .ref 71, .ref 72, .ref 73, .ref 74, .null, .int 0, .int 0, .null, .long 0]) :: [.inl (0, (243, .inl fun _ => 0)), .inl (0, (972, .inl fun _ => 0)), .inl (0, (243, .inl fun _ => 0)), .inl (0, (120, .inl fun _ => 0)), .inl (0, (168, .inl fun _ => 0)), .inl (0, (512, .inl fun _ => 0)), .inl (0, (1400, .inl fun _ => 0)), .inl (0, (6, .inl fun _ => 0)), .inl (0, (6, .inl fun _ => 0)), .inl (0, (56, .inl fun _ => 0)), .inl (1, (56, .inr (.inl fun _ => 0))), .inl (0, (10, .inl fun _ => 0)), .inl (0, (28, .inl fun _ => 0))]) : Hp)) rfl ?_
  refine bnd2 (a := 75) (b := (HA m ++ (.inr (4, [.ref 62, .ref 63, .ref 64, .int 0, .ref 65, .int 0, .int 0, .ref 66, .ref 67, .int 0, .ref 68, .int 0, .int 0, .ref 69, .ref 70, .ref 71, .ref 72, .ref 73, .ref 74, .null, .int 0, .int 0, .null, .long 0]) :: [.inl (0, (243, .inl fun _ => 0)), .inl (0, (972, .inl fun _ => 0)), .inl (0, (243, .inl fun _ => 0)), .inl (0, (120, .inl fun _ => 0)), .inl (0, (168, .inl fun _ => 0)), .inl (0, (512, .inl fun _ => 0)), .inl (0, (1400, .inl fun _ => 0)), .inl (0, (6, .inl fun _ => 0)), .inl (0, (6, .inl fun _ => 0)), .inl (0, (56, .inl fun _ => 0)), .inl (1, (56, .inr (.inl fun _ => 0))), .inl (0, (10, .inl fun _ => 0)), .inl (0, (28, .inl fun _ => 0)), .inl (0, (16, .inl fun _ => 0))]) : Hp)) rfl ?_
  refine bnd (a := (HA m ++ (.inr (4, [.ref 62, .ref 63, .ref 64, .int 0, .ref 65, .int 0, .int 0, .ref 66, .ref 67, .int 0, .ref 68, .int 0, .int 0, .ref 69, .ref 70, .ref 71, .ref 72, .ref 73, .ref 74, .ref 75, .int 0, .int 0, .null, .long 0]) :: [.inl (0, (243, .inl fun _ => 0)), .inl (0, (972, .inl fun _ => 0)), .inl (0, (243, .inl fun _ => 0)), .inl (0, (120, .inl fun _ => 0)), .inl (0, (168, .inl fun _ => 0)), .inl (0, (512, .inl fun _ => 0)), .inl (0, (1400, .inl fun _ => 0)), .inl (0, (6, .inl fun _ => 0)), .inl (0, (6, .inl fun _ => 0)), .inl (0, (56, .inl fun _ => 0)), .inl (1, (56, .inr (.inl fun _ => 0))), .inl (0, (10, .inl fun _ => 0)), .inl (0, (28, .inl fun _ => 0)), .inl (0, (16, .inl fun _ => 0))]) : Hp)) rfl ?_
  refine bnd2 (a := 76) (b := (HA m ++ (.inr (4, [.ref 62, .ref 63, .ref 64, .int 0, .ref 65, .int 0, .int 0, .ref 66, .ref 67, .int 0, .ref 68, .int 0, .int 0, .ref 69, .ref 70, .ref 71, .ref 72, .ref 73, .ref 74, .ref 75, .int 0, .int 0, .null, .long 0]) :: [.inl (0, (243, .inl fun _ => 0)), .inl (0, (972, .inl fun _ => 0)), .inl (0, (243, .inl fun _ => 0)), .inl (0, (120, .inl fun _ => 0)), .inl (0, (168, .inl fun _ => 0)), .inl (0, (512, .inl fun _ => 0)), .inl (0, (1400, .inl fun _ => 0)), .inl (0, (6, .inl fun _ => 0)), .inl (0, (6, .inl fun _ => 0)), .inl (0, (56, .inl fun _ => 0)), .inl (1, (56, .inr (.inl fun _ => 0))), .inl (0, (10, .inl fun _ => 0)), .inl (0, (28, .inl fun _ => 0)), .inl (0, (16, .inl fun _ => 0)), .inl (0, (3, .inl fun _ => 0))]) : Hp)) rfl ?_
  refine bnd (a := (HA m ++ (.inr (4, [.ref 62, .ref 63, .ref 64, .int 0, .ref 65, .int 0, .int 0, .ref 66, .ref 67, .int 0, .ref 68, .int 0, .int 0, .ref 69, .ref 70, .ref 71, .ref 72, .ref 73, .ref 74, .ref 75, .int 0, .int 0, .ref 76, .long 0]) :: [.inl (0, (243, .inl fun _ => 0)), .inl (0, (972, .inl fun _ => 0)), .inl (0, (243, .inl fun _ => 0)), .inl (0, (120, .inl fun _ => 0)), .inl (0, (168, .inl fun _ => 0)), .inl (0, (512, .inl fun _ => 0)), .inl (0, (1400, .inl fun _ => 0)), .inl (0, (6, .inl fun _ => 0)), .inl (0, (6, .inl fun _ => 0)), .inl (0, (56, .inl fun _ => 0)), .inl (1, (56, .inr (.inl fun _ => 0))), .inl (0, (10, .inl fun _ => 0)), .inl (0, (28, .inl fun _ => 0)), .inl (0, (16, .inl fun _ => 0)), .inl (0, (3, .inl fun _ => 0))]) : Hp)) rfl ?_
  rw [← zB_e]
def zH (m : Mem) : Mem := (m.I, fun a => if a = 77 then fun _ => 0 else m.J a, m.V)
theorem zH_e (m : Mem) : HB m ++ [.inl (1, (1, .inr (.inl fun _ => 0)))] = HH (zH m) := rfl
def s00 (k : Nat) : Int32 := if k = 2 then -100 else 0
theorem bg_0 : bgR 5 s00 = bgR 5 (fun _ => 0) := by
  funext k
  unfold bgR s00
  by_cases c : k = 2
  · by_cases c0 : k = 0
    · omega
    · rw [if_neg c0, if_neg c0, if_pos c, if_pos c]
  · rw [if_neg c, if_neg c, if_neg c]
theorem RS_0 : RS 9 z0 s00 (fun _ => 0) := by
  refine ⟨rfl, rfl, rfl, fun t ht => ⟨?_, ?_, ?_, ?_, rfl⟩, fun p hp => ⟨?_, ?_⟩⟩ <;> (unfold s00; rw [if_neg (by omega)]; rfl)
theorem vp_0 : vperm z0.V := by
  refine ⟨?_, ?_⟩
  · intro i hi
    have e : i = 0 ∨ i = 1 ∨ i = 2 ∨ i = 3 := by omega
    rcases e with rfl | rfl | rfl | rfl
    · exact Or.inl rfl
    · exact Or.inr (Or.inl rfl)
    · exact Or.inr (Or.inr (Or.inl rfl))
    · exact Or.inr (Or.inr (Or.inr rfl))
  · intro i j hi hj h
    have e : i = 0 ∨ i = 1 ∨ i = 2 ∨ i = 3 := by omega
    have f : j = 0 ∨ j = 1 ∨ j = 2 ∨ j = 3 := by omega
    rcases e with rfl | rfl | rfl | rfl <;> rcases f with rfl | rfl | rfl | rfl <;> first | rfl | exact absurd h (by decide)
theorem start_ok : ∃ x m ot h, f_start = some (x, m, ot, h) ∧ PP x m ot h := by
  have hn : n38 5 := ⟨by omega, by omega⟩
  obtain ⟨m1, e1, r1, g1⟩ := c_clearA RS_0 5
  have i4 : m1.I 4 = z0.I 4 := (g1.1 4 (by unfold cS; omega)).1
  have lz1 : LZ m1 := by
    intro i j k _ _ _ _
    rw [i4]
    rfl
  obtain ⟨m2, e2, L2, lz2, g2⟩ := c_arrangeA hn lz1
  have ex : f_X3_init 0 [.inr (3, [.null, .null, .null, .null, .int 0, .null, .null, .null, .null, .null, .null, .null])] = some (HA m2) := by
    rw [X3_e, show f_X2_clearFor 9 5 (HA z0) = some (HA m1) from e1, Option.bind_some, g_0_0A, Option.bind_some, show f_X0_arrange 1 5 (HA m1) = some (HA m2) from e2, Option.bind_some]
  obtain ⟨m3, e3, L3, g3⟩ := m_beginsB hn (z1 m2)
  have lo : ∀ a, a < 61 → m3.I a = m2.I a ∧ m3.J a = m2.J a := by
    intro a ha
    obtain ⟨q1, q2⟩ := g3.1.1 a (by unfold cN; omega)
    rw [q1, q2, rI_n _ _ (by omega)]
    exact ⟨if_pos ha, if_pos ha⟩
  have w62 : m3.I 62 = bgR 5 (fun _ => 0) := by
    rw [(g3.1.1 62 (by unfold cN; omega)).1, rI_I]
    rfl
  have w61 : ∀ k, k ≠ 9 → k ≠ 11 → m3.I 61 k = 0 := by
    intro k h1 h2
    rw [g3.2 k h1 h2, rI_n _ _ (by omega)]
    rfl
  have mV : m3.V = z0.V := by
    rw [g3.1.2]
    show m2.V = _
    rw [g2.2, g1.2]
  have lo2 : ∀ a, a < 61 → (zH m3).I a = m2.I a ∧ (zH m3).J a = m2.J a := by
    intro a ha
    refine ⟨(lo a ha).1, ?_⟩
    show (if a = 77 then fun _ => 0 else m3.J a) = _
    rw [if_neg (by omega)]
    exact (lo a ha).2
  have k2 : ∀ a, a < 61 → ¬ cS 9 a → ¬ cA a → m2.I a = z0.I a := fun a _ h1 h2 => ((g2.1 a h2).1).trans (g1.1 a h1).1
  have hC : CC 5 (bgR 5 (fun _ => 0)) (fun _ => 0) 0 (fun _ _ => 0) (fun _ _ => 0) 0 (fun _ => 0) (zH m3) := by
    refine ⟨LC_of L2 (fun a _ hb => lo2 a (by omega)), ?_, ?_, ?_, ?_, fun i hi => absurd hi (by omega), ?_, fun k hk => absurd hk (by omega)⟩
    · unfold LZ
      rw [(lo2 4 (by omega)).1]
      exact lz2
    · rw [← bg_0]
      refine RS_of (RS_of r1 (fun a ha => g2.1 a (by unfold cS at ha; unfold cA; omega))) (fun a ha => lo2 a (by unfold cS at ha; omega))
    · rw [(lo2 0 (by omega)).1, k2 0 (by omega) (by unfold cS; omega) (by unfold cA; omega)]
      rfl
    · show vperm m3.V
      rw [mV]
      exact vp_0
    · rw [(lo2 17 (by omega)).1, k2 17 (by omega) (by unfold cS; omega) (by unfold cA; omega)]
      rfl
  have hD : DD 5 (bgR 5 (fun _ => 0)) 0 (fun _ _ => 0) 0 (fun _ => 0) (zH m3) :=
    ⟨L3, w62, w61 3 (by omega) (by omega), fun i k hi => absurd hi (by omega), w61 5 (by omega) (by omega), fun k hk => absurd hk (by omega)⟩
  have hI : INV (zH m3) := ⟨5, _, _, 0, _, _, 0, _, hC, hD, GG_bg hn (Or.inl rfl), by omega, fun i hi => absurd hi (by omega), by omega, fun k hk => absurd hk (by omega)⟩
  refine ⟨0, 61, 77, HH (zH m3), ?_, rfl, rfl, rfl, _, rfl, hI⟩
  unfold f_start
  refine bnd2 (a := 0) (b := [.inr (3, [.null, .null, .null, .null, .int 0, .null, .null, .null, .null, .null, .null, .null])]) rfl ?_
  refine bnd ex ?_
  refine bnd2 (a := 61) (b := HA m2 ++ [.inr (4, [.null, .null, .null, .int 0, .null, .int 0, .int 0, .null, .null, .int 0, .null, .int 0, .int 0, .null, .null, .null, .null, .null, .null, .null, .int 0, .int 0, .null, .long 0])]) rfl ?_
  refine bnd (a := HB m3) ?_ ?_
  · rw [X4_e, show f_X4_begins 61 5 (HB (z1 m2)) = some (HB m3) from e3, Option.bind_some]
  · exact bnd2 (a := 77) (b := HH (zH m3)) rfl rfl
