theorem up2_up2 (f : hG) (i j x y : Nat) : up2 (up2 f i j x) i j y = up2 f i j y := by
  funext a b
  rw [up2_at, up2_at, up2_at]
  split <;> rfl
theorem up2_eta (f : hG) (i j : Nat) : up2 f i j (f i j) = f := by
  funext a b
  rw [up2_at]
  split
  · next e => rw [e.1, e.2]
  · rfl
theorem lmaxN {a b : Nat} (ha : a < 2 ^ 63) (hb : b < 2 ^ 63) : (if lN b < lN a then lN a else lN b) = lN (max a b) := by
  by_cases h : b < a
  · rw [if_pos ((pk_lLT hb ha).mpr h), Nat.max_eq_left (by omega)]
  · rw [if_neg (fun q => h ((pk_lLT hb ha).mp q)), Nat.max_eq_right (by omega)]
theorem lminN {a b : Nat} (ha : a < 2 ^ 63) (hb : b < 2 ^ 63) : (if lN b < lN a then lN b else lN a) = lN (min a b) := by
  by_cases h : b < a
  · rw [if_pos ((pk_lLT hb ha).mpr h), Nat.min_eq_right (by omega)]
  · rw [if_neg (fun q => h ((pk_lLT hb ha).mp q)), Nat.min_eq_left (by omega)]
def maxR (g : Nat → Nat) (x a : Nat) : Nat → Nat
  | 0 => x
  | m + 1 => max (maxR g x a m) (g (a + m))
def sum2 (t : Nat → Nat → Nat) (q : Nat) : Nat := sumR (fun b => sumR (t b) 0 q) 0 q
def max2 (t : Nat → Nat → Nat) (x q : Nat) : Nat → Nat
  | 0 => x
  | b + 1 => maxR (t b) (max2 t x q b) 0 q
def tS (ru su : hG) (kd l1 l2 b c : Nat) : Nat := ru kd (b * 4 + c) * su b l1 * su c l2
def tC (ru ct : hG) (kd l1 l2 b c : Nat) : Nat := if 0 < ru kd (b * 4 + c) then ct b l1 * ct c l2 else 0
theorem maxR_lt {g : Nat → Nat} {x a z : Nat} (hx : x < z) : ∀ {m : Nat}, (∀ i, i < m → g (a + i) < z) → maxR g x a m < z
  | 0, _ => hx
  | m + 1, hg => by
    have h1 := maxR_lt (a := a) (g := g) hx (m := m) (fun i hi => hg i (by omega))
    have h2 := hg m (by omega)
    show max (maxR g x a m) (g (a + m)) < z
    omega
theorem max2_lt {t : Nat → Nat → Nat} {x q z : Nat} (hx : x < z) : ∀ {m : Nat}, (∀ i j, i < m → j < q → t i j < z) → max2 t x q m < z
  | 0, _ => hx
  | m + 1, hg => maxR_lt (max2_lt hx (fun i j hi hj => hg i j (by omega) hj)) (fun i hi => by rw [Nat.zero_add]; exact hg m i (by omega) hi)
