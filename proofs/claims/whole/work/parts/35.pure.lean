theorem up2_at (f : hG) (i j x a b : Nat) : up2 f i j x a b = if a = i ∧ b = j then x else f a b := by
  unfold up2 va_up
  by_cases h : a = i
  · subst h
    by_cases h2 : b = j
    · subst h2
      simp
    · simp [h2]
  · simp [h]
theorem up2_self (f : hG) (i j x : Nat) : up2 f i j x i j = x := by rw [up2_at, if_pos ⟨rfl, rfl⟩]
theorem up2_ne {f : hG} {i j x a b : Nat} (h : ¬ (a = i ∧ b = j)) : up2 f i j x a b = f a b := by rw [up2_at, if_neg h]
theorem up2_row {f : hG} {i j x a : Nat} (h : a ≠ i) : up2 f i j x a = f a := by
  unfold up2
  exact va_up_ne _ _ h
theorem sumR_congr {g g' : Nat → Nat} {a : Nat} : ∀ {m : Nat}, (∀ i, i < m → g (a + i) = g' (a + i)) → sumR g a m = sumR g' a m
  | 0, _ => rfl
  | m + 1, h => by
    show sumR g a m + g (a + m) = sumR g' a m + g' (a + m)
    rw [sumR_congr (fun i hi => h i (by omega)), h m (by omega)]
theorem lonR_congr {cu : Nat → Nat} {s : hS} {n x bg st : Nat} {f g g' : hG} (h : ∀ y, bg < y → y ≤ n → g y st = g' y st) : lonR cu s n f g x bg st = lonR cu s n f g' x bg st := by
  unfold lonR
  refine sumR_congr (fun i hi => ?_)
  show _ * _ = _ * _
  rw [h (bg + (x + 1 + i)) (by omega) (by omega)]
theorem outR_congr {cu : Nat → Nat} {s : hS} {p st : Nat} {f f' : hG} (h : f p = f' p) : outR cu s f p st = outR cu s f' p st := by
  unfold outR
  rw [h]
theorem intR_congr {cu : Nat → Nat} {s : hS} {p st : Nat} {f f' : hG} (h : f p = f' p) : intR cu s f p st = intR cu s f' p st := by
  unfold intR
  rw [h]
theorem endR_congr {cu : Nat → Nat} {s : hS} {e st : Nat} {f g g' : hG} (h : ∀ y, y < e → g y st = g' y st) : endR cu s f g e st = endR cu s f g' e st := by
  unfold endR
  refine sumR_congr (fun i hi => ?_)
  show _ * _ = _ * _
  rw [h (e - (1 + i)) (by omega)]
theorem pm_sub (m : Nat) : nI m - nI 1 = nI m + (-1) := by
  rw [Int32.sub_eq_add_neg]
  rfl
def okW (cu : Nat → Nat) (r : hR) (s : hS) (w : hW) : Prop :=
  (∀ a b, a < r.2.2 → b < s.2.2 → w.1 a b = shoR cu s r a b) ∧
  (∀ b, b < s.2.2 → w.2.2.1 r.2.2 b = cu (s.1 b 1)) ∧
  (∀ a b, a < r.2.2 → b < s.2.2 → w.2.1 a b = lonR cu s r.2.2 w.1 w.2.2.1 0 a b) ∧
  (∀ a b, a < r.2.2 → b < s.2.2 → w.2.2.1 a b = outR cu s w.2.1 a b) ∧
  (∀ a b, a < r.2.2 → b < s.2.2 → w.2.2.2.2.1 a b = if a = 0 then cu (s.1 b 0) else intR cu s w.2.2.2.1 a b) ∧
  (∀ a b, a < r.2.2 → b < s.2.2 → w.2.2.2.1 (a + 1) b = endR cu s w.1 w.2.2.2.2.1 (a + 1) b)
def okR (r : hR) : Prop := r.2.2 ≤ 6 ∧ ∀ i, i < 6 → r.1 i = -1 ∨ ∃ z, z < 4 ∧ r.1 i = nI z
def okS (s : hS) : Prop := s.2.2 ≤ 4 ∧ (∀ i j, s.1 i j ≤ 4) ∧ ∀ i j, s.2.1 i j ≤ 4
