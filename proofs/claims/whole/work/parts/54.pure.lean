abbrev bet (x y a b : Nat) : Prop := a < x ∨ (x = a ∧ y < b)
theorem va_eta {α : Type} (f : Nat → α) (i : Nat) : va_up f i (f i) = f := by
  funext j
  by_cases h : j = i
  · subst h
    exact va_up_self _ _ _
  · exact va_up_ne _ _ h
def isPos (L : hL) (x y p : Nat) : Prop := p ≤ L.2.2 ∧ (∀ i, p ≤ i → i < L.2.2 → bet x y (L.1 i) (L.2.1 i)) ∧ (p = 0 ∨ ¬ bet x y (L.1 (p - 1)) (L.2.1 (p - 1))) ∧ 0 < x
def okOff (L L1 : hL) (x y p : Nat) : Prop := L1.2.2 = min (L.2.2 + 1) 10 ∧ ∀ i, i < L1.2.2 → (L1.1 i = if i < p then L.1 i else if i = p then x else L.1 (i - 1)) ∧ (L1.2.1 i = if i < p then L.2.1 i else if i = p then y else L.2.1 (i - 1))
theorem iminN {a b : Nat} (ha : a < 2 ^ 31) (hb : b < 2 ^ 31) : (if nI b < nI a then nI b else nI a) = nI (min a b) := by
  by_cases h : b < a
  · rw [if_pos ((nI_ltI hb ha).mpr h), Nat.min_eq_right (by omega)]
  · rw [if_neg (fun q => h ((nI_ltI hb ha).mp q)), Nat.min_eq_left (by omega)]
