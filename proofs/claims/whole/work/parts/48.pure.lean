abbrev tT (k : hK) (be : hG) (kd i j e : Nat) : Nat → Nat → Nat := tS k.1 be kd (i * 6 + (i + e)) ((i + 1 + e) * 6 + j)
def isPick (k : hK) (be : hG) (kd i j e x y : Nat) : Prop :=
  e < j - i ∧ x < k.2.2 ∧ y < k.2.2 ∧ tT k be kd i j e x y = be kd (i * 6 + j) ∧ ∀ y1 a c, y1 < e ∨ (y1 = e ∧ (a < x ∨ (a = x ∧ c < y))) → c < k.2.2 → a < k.2.2 → tT k be kd i j y1 a c ≠ be kd (i * 6 + j)
theorem isPick_eq {k : hK} {be : hG} {kd i j e x y e' x' y' : Nat} (h : isPick k be kd i j e x y) (h' : isPick k be kd i j e' x' y') : e = e' ∧ x = x' ∧ y = y' := by
  obtain ⟨h1, h2, h3, h4, h5⟩ := h
  obtain ⟨g1, g2, g3, g4, g5⟩ := h'
  have a : ¬ (e' < e ∨ (e' = e ∧ (x' < x ∨ (x' = x ∧ y' < y)))) := fun q => h5 e' x' y' q g3 g2 g4
  have b : ¬ (e < e' ∨ (e = e' ∧ (x < x' ∨ (x = x' ∧ y < y')))) := fun q => g5 e x y q h3 h2 h4
  omega
def tellStep (k : hK) (be : hG) : List (Nat × Nat × Nat) → Nat → List (Nat × Nat × Nat) → Prop
  | [], _, _ => False
  | (kd, i, j) :: R, v, S => (i = j ∧ v = 0 ∧ S = R) ∨ (i < j ∧ ∃ e x y, isPick k be kd i j e x y ∧ v = 100 * (i + 1 + e) + 10 * x + y ∧ S = (x, i, i + e) :: (y, i + 1 + e, j) :: R)
def tellsAt (k : hK) (be : hG) : Nat → List (Nat × Nat × Nat) → Nat → Prop
  | 0, S, v => ∃ S', tellStep k be S v S'
  | m + 1, S, v => ∃ u S', tellStep k be S u S' ∧ tellsAt k be m S' v
theorem tellStep_eq {k : hK} {be : hG} : ∀ {S S1 S2 : List (Nat × Nat × Nat)} {u v : Nat}, tellStep k be S u S1 → tellStep k be S v S2 → u = v ∧ S1 = S2
  | [], _, _, _, _, h, _ => h.elim
  | (kd, i, j) :: R, S1, S2, u, v, h, g => by
    rcases h with ⟨e1, rfl, rfl⟩ | ⟨e1, e, x, y, hp, rfl, rfl⟩ <;> rcases g with ⟨f1, rfl, rfl⟩ | ⟨f1, e', x', y', hp', rfl, rfl⟩
    · exact ⟨rfl, rfl⟩
    · omega
    · omega
    · obtain ⟨rfl, rfl, rfl⟩ := isPick_eq hp hp'
      exact ⟨rfl, rfl⟩
theorem tellsAt_eq {k : hK} {be : hG} : ∀ {m : Nat} {S : List (Nat × Nat × Nat)} {u v : Nat}, tellsAt k be m S u → tellsAt k be m S v → u = v
  | 0, _, _, _, ⟨_, h⟩, ⟨_, g⟩ => (tellStep_eq h g).1
  | m + 1, _, _, _, ⟨_, _, h, h2⟩, ⟨_, _, g, g2⟩ => by
    obtain ⟨-, rfl⟩ := tellStep_eq h g
    exact tellsAt_eq h2 g2
def repS (wk wp : Nat → Nat) : List (Nat × Nat × Nat) → Prop
  | [] => True
  | (kd, i, j) :: R => wk R.length = kd ∧ wp R.length = i * 6 + j ∧ repS wk wp R
theorem repS_up {wk wp : Nat → Nat} {a x y : Nat} : ∀ {S : List (Nat × Nat × Nat)}, S.length ≤ a → repS wk wp S → repS (va_up wk a x) (va_up wp a y) S
  | [], _, _ => trivial
  | (kd, i, j) :: R, hl, ⟨h1, h2, h3⟩ => by
    have hl : R.length + 1 ≤ a := hl
    exact ⟨by rw [va_up_ne _ _ (by omega)]; exact h1, by rw [va_up_ne _ _ (by omega)]; exact h2, repS_up (by omega) h3⟩
def okN (k : hK) (r : hR) (be : hG) (q : Nat × Nat × Nat) : Prop := q.1 < k.2.2 ∧ q.2.1 ≤ q.2.2 ∧ q.2.2 < r.2.2 ∧ 0 < be q.1 (q.2.1 * 6 + q.2.2)
def szS : List (Nat × Nat × Nat) → Nat
  | [] => 0
  | (_, i, j) :: R => j - i + 1 + szS R
def ndS : List (Nat × Nat × Nat) → Nat
  | [] => 0
  | (_, i, j) :: R => 2 * (j - i) + 1 + ndS R
theorem len_sz : ∀ S : List (Nat × Nat × Nat), S.length ≤ szS S
  | [] => Nat.le_refl _
  | (_, i, j) :: R => by
    have := len_sz R
    show R.length + 1 ≤ j - i + 1 + szS R
    omega
theorem maxR_at {g : Nat → Nat} {x : Nat} : ∀ m, maxR g x 0 m = x ∨ ∃ i, i < m ∧ g i = maxR g x 0 m
  | 0 => Or.inl rfl
  | m + 1 => by
    have h : maxR g x 0 (m + 1) = max (maxR g x 0 m) (g (0 + m)) := rfl
    rw [Nat.zero_add] at h
    rcases Nat.le_total (g m) (maxR g x 0 m) with q | q
    · rw [h, Nat.max_eq_left q]
      rcases maxR_at m with e | ⟨i, hi, e⟩
      · exact Or.inl e
      · exact Or.inr ⟨i, by omega, e⟩
    · rw [h, Nat.max_eq_right q]
      exact Or.inr ⟨m, by omega, rfl⟩
theorem max2_at {t : Nat → Nat → Nat} {x q : Nat} : ∀ m, max2 t x q m = x ∨ ∃ i j, i < m ∧ j < q ∧ t i j = max2 t x q m
  | 0 => Or.inl rfl
  | m + 1 => by
    have h : max2 t x q (m + 1) = maxR (t m) (max2 t x q m) 0 q := rfl
    rw [h]
    rcases maxR_at (g := t m) (x := max2 t x q m) q with e | ⟨j, hj, e⟩
    · rw [e]
      rcases max2_at m with e2 | ⟨i, j, hi, hj, e2⟩
      · exact Or.inl e2
      · exact Or.inr ⟨i, j, by omega, hj, e2⟩
    · exact Or.inr ⟨m, j, by omega, hj, e⟩
theorem mxF_at {T : Nat → Nat → Nat → Nat} {x q : Nat} : ∀ m, mxF T x q m = x ∨ ∃ y i j, y < m ∧ i < q ∧ j < q ∧ T y i j = mxF T x q m
  | 0 => Or.inl rfl
  | m + 1 => by
    have h : mxF T x q (m + 1) = max2 (T m) (mxF T x q m) q q := rfl
    rw [h]
    rcases max2_at (t := T m) (x := mxF T x q m) (q := q) q with e | ⟨i, j, hi, hj, e⟩
    · rw [e]
      rcases mxF_at m with e2 | ⟨y, i, j, hy, hi, hj, e2⟩
      · exact Or.inl e2
      · exact Or.inr ⟨y, i, j, by omega, hi, hj, e2⟩
    · exact Or.inr ⟨m, i, j, by omega, hi, hj, e⟩
theorem pick_there {k : hK} {r : hR} {su ct be : hG} {kd i j : Nat} (h : okT k r su ct be) (hk : okN k r be (kd, i, j)) (hij : i < j) (hno : ∀ y a c, y < j - i → a < k.2.2 → c < k.2.2 → tT k be kd i j y a c ≠ be kd (i * 6 + j)) : False := by
  obtain ⟨h1, h2, h3, h4⟩ := hk
  have e := (h kd i j h1 h2 h3 trivial).2.2.1
  unfold fB at e
  rcases mxF_at (T := fun y => tS k.1 be kd (i * 6 + (i + y)) ((i + 1 + y) * 6 + j)) (x := lfR k r kd i j) (q := k.2.2) (j - i) with q | ⟨y, a, c, hy, ha, hc, q⟩
  · rw [q] at e
    unfold lfR at e
    rw [if_neg (by omega)] at e
    have h4 : 0 < be kd (i * 6 + j) := h4
    omega
  · rw [← e] at q
    exact hno y a c hy ha hc q
theorem pick_parts {k : hK} {be : hG} {kd i j e x y : Nat} (h : isPick k be kd i j e x y) (hp : 0 < be kd (i * 6 + j)) : 0 < be x (i * 6 + (i + e)) ∧ 0 < be y ((i + 1 + e) * 6 + j) := by
  obtain ⟨-, -, -, h4, -⟩ := h
  have h4 : k.1 kd (x * 4 + y) * be x (i * 6 + (i + e)) * be y ((i + 1 + e) * 6 + j) = be kd (i * 6 + j) := h4
  rw [← h4] at hp
  constructor
  · rcases Nat.eq_zero_or_pos (be x (i * 6 + (i + e))) with q | q
    · rw [q, Nat.mul_zero, Nat.zero_mul] at hp
      omega
    · exact q
  · rcases Nat.eq_zero_or_pos (be y ((i + 1 + e) * 6 + j)) with q | q
    · rw [q, Nat.mul_zero] at hp
      omega
    · exact q
