theorem sty_congr {u v : Nat → Nat} : ∀ {p : Nat}, (∀ i, i ≤ p → u i = v i) → sty u p = sty v p
  | 0, _ => rfl
  | p + 1, h => by
    show (if u (p + 1) % 2 = 1 then sty u p + 1 else 1) = if v (p + 1) % 2 = 1 then sty v p + 1 else 1
    rw [h (p + 1) (Nat.le_refl _), sty_congr (p := p) (fun i hi => h i (by omega))]
theorem cbR_le (q : Nat) (v : Nat → Nat) (p x : Nat) : cbR q v p x ≤ 1 := by
  unfold cbR
  (repeat' split) <;> omega
theorem cbR_congr {q : Nat} {u v : Nat → Nat} {p x : Nat} (h : ∀ i, i < p → u i = v i) : cbR q u p x = cbR q v p x := by
  unfold cbR
  rcases Nat.eq_zero_or_pos p with rfl | hp
  · rw [if_neg (c := 0 < 0 ∧ _) (by omega), if_neg (c := 0 < 0 ∧ _) (by omega)]
  · rw [h (p - 1) (by omega), sty_congr (p := p - 1) (fun i hi => h i (by omega))]
def cod (v : Nat → Nat) : Nat → Nat
  | 0 => 0
  | p + 1 => 8 * cod v p + v p
def okV (q n : Nat) (v : Nat → Nat) : Prop := ∀ i, i < n → v i < 8 ∧ cbR q v i (v i) = 1
theorem cod_congr {u v : Nat → Nat} : ∀ {p : Nat}, (∀ i, i < p → u i = v i) → cod u p = cod v p
  | 0, _ => rfl
  | p + 1, h => by
    show 8 * cod u p + u p = 8 * cod v p + v p
    rw [h p (by omega), cod_congr (p := p) (fun i hi => h i (by omega))]
theorem cod_lt {v : Nat → Nat} : ∀ {p : Nat}, (∀ i, i < p → v i < 8) → cod v p < 8 ^ p
  | 0, _ => Nat.one_pos
  | p + 1, h => by
    have h1 := cod_lt (p := p) (fun i hi => h i (by omega))
    have h2 := h p (by omega)
    show 8 * cod v p + v p < 8 ^ (p + 1)
    rw [Nat.pow_succ]
    omega
theorem cod_inj {u v : Nat → Nat} : ∀ {p : Nat}, (∀ i, i < p → u i < 8) → (∀ i, i < p → v i < 8) → cod u p = cod v p → ∀ i, i < p → u i = v i
  | 0, _, _, _ => fun i hi => absurd hi (by omega)
  | p + 1, hu, hv, h => fun i hi => by
    have e : 8 * cod u p + u p = 8 * cod v p + v p := h
    have a1 := hu p (by omega)
    have a2 := hv p (by omega)
    rcases Nat.lt_or_ge i p with g | g
    · exact cod_inj (p := p) (fun i hi => hu i (by omega)) (fun i hi => hv i (by omega)) (by omega) i g
    · obtain rfl : i = p := by omega
      omega
theorem cod_div {v : Nat → Nat} {p : Nat} : ∀ {k : Nat}, (∀ i, i < p + k → v i < 8) → cod v (p + k) / 8 ^ k = cod v p
  | 0, _ => by rw [Nat.pow_zero, Nat.div_one]; rfl
  | k + 1, h => by
    have h1 := cod_div (p := p) (k := k) (fun i hi => h i (by omega))
    have h2 := h (p + k) (by omega)
    show (8 * cod v (p + k) + v (p + k)) / 8 ^ (k + 1) = _
    rw [Nat.pow_succ, Nat.mul_comm (8 ^ k), ← Nat.div_div_eq_div_mul, show (8 * cod v (p + k) + v (p + k)) / 8 = cod v (p + k) by omega, h1]
def nB (v : Nat → Nat) (p x n : Nat) : Nat := (8 * cod v p + x) * 8 ^ (n - 1 - p)
theorem nB_mono {v : Nat → Nat} {p x y n : Nat} (h : x < y) : nB v p x n < nB v p y n := by
  unfold nB
  exact Nat.mul_lt_mul_of_lt_of_le (by omega) (Nat.le_refl _) (Nat.pow_pos (by omega))
theorem nB_le {v : Nat → Nat} {p x n : Nat} (hp : p < n) (hx : x ≤ 8) (h : ∀ i, i < p → v i < 8) : nB v p x n ≤ 8 ^ n := by
  have h1 := cod_lt h
  unfold nB
  have h2 : 8 * cod v p + x ≤ 8 ^ (p + 1) := by rw [Nat.pow_succ]; omega
  have h3 := Nat.mul_le_mul_right (8 ^ (n - 1 - p)) h2
  rw [← Nat.pow_add, show p + 1 + (n - 1 - p) = n by omega] at h3
  exact h3
theorem nB_up {v : Nat → Nat} {p n : Nat} (hp : p + 1 < n) : nB v (p + 1) 8 n = nB v p (v p + 1) n := by
  unfold nB
  show (8 * (8 * cod v p + v p) + 8) * 8 ^ (n - 1 - (p + 1)) = _
  rw [show n - 1 - p = (n - 1 - (p + 1)) + 1 by omega, Nat.pow_succ, Nat.mul_comm (8 ^ _) 8, ← Nat.mul_assoc]
  congr 1
  omega
theorem cod_up {v : Nat → Nat} {p x : Nat} : cod (va_up v p x) (p + 1) = 8 * cod v p + x := by
  show 8 * cod (va_up v p x) p + va_up v p x p = _
  rw [cod_congr (u := va_up v p x) (v := v) (fun i hi => by show (if i = p then x else v i) = v i; rw [if_neg (by omega)])]
  show 8 * cod v p + (if p = p then x else v p) = _
  rw [if_pos rfl]
theorem nB_down {v : Nat → Nat} {p x n : Nat} (hp : p + 1 < n) : nB (va_up v p x) (p + 1) 0 n = nB v p x n := by
  unfold nB
  rw [cod_up, show n - 1 - p = (n - 1 - (p + 1)) + 1 by omega, Nat.pow_succ, Nat.mul_comm (8 ^ _) 8, ← Nat.mul_assoc]
  congr 1
  omega
theorem nB_end {v : Nat → Nat} {p x n : Nat} (hp : p + 1 = n) : cod (va_up v p x) n = nB v p x n := by
  subst hp
  unfold nB
  rw [cod_up, show p + 1 - 1 - p = 0 by omega, Nat.pow_zero, Nat.mul_one]
theorem nB_last {v : Nat → Nat} {n : Nat} (hn : 0 < n) : nB v (n - 1) (v (n - 1) + 1) n = cod v n + 1 := by
  obtain ⟨m, rfl⟩ : ∃ m, n = m + 1 := ⟨n - 1, by omega⟩
  show (8 * cod v m + (v m + 1)) * 8 ^ (m + 1 - 1 - m) = 8 * cod v m + v m + 1
  rw [show m + 1 - 1 - m = 0 by omega, Nat.pow_zero, Nat.mul_one]
  omega
theorem okV_up {q p x : Nat} {v : Nat → Nat} (h : okV q p v) (hx : x < 8) (hc : cbR q v p x = 1) : okV q (p + 1) (va_up v p x) := by
  intro i hi
  have hcg : ∀ j, j < p → va_up v p x j = v j := fun j hj => by show (if j = p then x else v j) = v j; rw [if_neg (by omega)]
  rcases Nat.lt_or_ge i p with g | g
  · rw [hcg i g, cbR_congr (fun j hj => hcg j (by omega))]
    exact h i g
  · obtain rfl : i = p := by omega
    have e : va_up v i x i = x := by show (if i = i then x else v i) = x; rw [if_pos rfl]
    rw [e, cbR_congr (fun j hj => hcg j (by omega))]
    exact ⟨hx, hc⟩
theorem nB_skip {q p x n c0 : Nat} {v : Nat → Nat} (hp : p < n) (hx : x < 8) (hv : okV q p v) (hc : cbR q v p x ≠ 1) (h : ∀ u, okV q n u → cod u n < nB v p x n → cod u n < c0) : ∀ u, okV q n u → cod u n < nB v p (x + 1) n → cod u n < c0 := by
  intro u hu h1
  rcases Nat.lt_or_ge (cod u n) (nB v p x n) with g | g
  · exact h u hu g
  · exfalso
    have hK : cod u n / 8 ^ (n - 1 - p) = 8 * cod v p + x := by
      unfold nB at g h1
      exact Nat.div_eq_of_lt_le g (by rw [show 8 * cod v p + x + 1 = 8 * cod v p + (x + 1) by omega]; exact h1)
    have hd : cod u (p + 1 + (n - 1 - p)) / 8 ^ (n - 1 - p) = cod u (p + 1) := cod_div (fun i hi => (hu i (by omega)).1)
    rw [show p + 1 + (n - 1 - p) = n by omega, hK] at hd
    have hd2 : 8 * cod v p + x = 8 * cod u p + u p := hd
    have hup := (hu p hp).1
    have e1 : u p = x := by omega
    have e2 := cod_inj (p := p) (fun i hi => (hu i (by omega)).1) (fun i hi => (hv i hi).1) (by omega)
    have h9 := (hu p hp).2
    rw [cbR_congr e2, e1] at h9
    exact hc h9
