def upC (f : hG) (sp q : Nat) (F : Nat → Nat) : hG := fun a b => if b = sp ∧ a < q then F a else f a b
theorem upC_ne {f : hG} {sp q a b : Nat} {F : Nat → Nat} (h : b ≠ sp) : upC f sp q F a b = f a b := if_neg (fun e => h e.1)
theorem upC_in {f : hG} {sp q a : Nat} {F : Nat → Nat} (h : a < q) : upC f sp q F a sp = F a := if_pos ⟨rfl, h⟩
theorem upC_out {f : hG} {sp q a b : Nat} {F : Nat → Nat} (h : q ≤ a) : upC f sp q F a b = f a b := if_neg (fun e => by omega)
theorem upC_0 (f : hG) (sp : Nat) (F : Nat → Nat) : upC f sp 0 F = f := by
  funext a b
  exact if_neg (fun e => by omega)
theorem upC_succ (f : hG) (sp q : Nat) (F : Nat → Nat) : up2 (upC f sp q F) q sp (F q) = upC f sp (q + 1) F := by
  funext a b
  rw [up2_at]
  unfold upC
  by_cases h : a = q ∧ b = sp
  · rw [if_pos h, if_pos ⟨h.2, by omega⟩, h.1]
  · rw [if_neg h]
    by_cases h2 : b = sp ∧ a < q
    · rw [if_pos h2, if_pos ⟨h2.1, by omega⟩]
    · rw [if_neg h2, if_neg (fun e => by omega)]
def tG (ru f g : hG) (kd l1 l2 b c : Nat) : Nat := ru kd (b * 4 + c) * f b l1 * g c l2
theorem tG_upl {ru f g : hG} {sp q kd l1 l2 : Nat} {F : Nat → Nat} (h : l1 ≠ sp) : tG ru (upC f sp q F) g kd l1 l2 = tG ru f g kd l1 l2 := by
  funext b c
  unfold tG
  rw [upC_ne h]
theorem tG_upr {ru f g : hG} {sp q kd l1 l2 : Nat} {F : Nat → Nat} (h : l2 ≠ sp) : tG ru f (upC g sp q F) kd l1 l2 = tG ru f g kd l1 l2 := by
  funext b c
  unfold tG
  rw [upC_ne h]
theorem upC_upC (f : hG) (sp q : Nat) (F F' : Nat → Nat) : upC (upC f sp q F) sp q F' = upC f sp q F' := by
  funext a b
  unfold upC
  split <;> rfl
theorem upC_congr {f : hG} {sp q : Nat} {F F' : Nat → Nat} (h : ∀ a, a < q → F a = F' a) : upC f sp q F = upC f sp q F' := by
  funext a b
  unfold upC
  split
  · next e => exact h a e.2
  · rfl
def hvF (k : hK) (su ha : hG) (kd a b i j : Nat) : Nat :=
  sumR (fun y => sum2 (tG k.1 su ha kd (a * 6 + (a + y)) ((a + 1 + y) * 6 + b)) k.2.2) 0 (i - a) + sumR (fun y => sum2 (tG k.1 ha su kd (a * 6 + (j + y)) ((j + 1 + y) * 6 + b)) k.2.2) 0 (b - j)
