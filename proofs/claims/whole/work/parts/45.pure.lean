theorem mxF_congr {T T' : Nat → Nat → Nat → Nat} {x q : Nat} : ∀ {m : Nat}, (∀ y, y < m → T y = T' y) → mxF T x q m = mxF T' x q m
  | 0, _ => rfl
  | m + 1, h => by
    show max2 (T m) (mxF T x q m) q q = max2 (T' m) (mxF T' x q m) q q
    rw [h m (by omega), mxF_congr (fun y hy => h y (by omega))]
theorem fS_up {k : hK} {su : hG} {lf kd i j x kk a b : Nat} (hj : j < 6) (hb : b < 6) (h : b - a ≤ j - i) (hi : i ≤ j) : fS k (up2 su kd (i * 6 + j) x) lf kk a b (b - a) = fS k su lf kk a b (b - a) := by
  unfold fS
  congr 1
  exact sumR_congr (fun y hy => by rw [tS_up (by omega) (by omega)])
theorem fC_up {k : hK} {su : hG} {lf kd i j x kk a b : Nat} (hj : j < 6) (hb : b < 6) (h : b - a ≤ j - i) (hi : i ≤ j) : fC k (up2 su kd (i * 6 + j) x) lf kk a b (b - a) = fC k su lf kk a b (b - a) := by
  unfold fC
  congr 1
  exact sumR_congr (fun y hy => by rw [tC_up (by omega) (by omega)])
theorem fB_up {k : hK} {su : hG} {lf kd i j x kk a b : Nat} (hj : j < 6) (hb : b < 6) (h : b - a ≤ j - i) (hi : i ≤ j) : fB k (up2 su kd (i * 6 + j) x) lf kk a b (b - a) = fB k su lf kk a b (b - a) := by
  unfold fB
  exact mxF_congr (fun y hy => by rw [tS_up (by omega) (by omega)])
theorem tb_le {ru p q y z dd : Nat} (hd : y + z + 1 = dd) (hr : ru ≤ 4) (hp : p ≤ 16 * 64 ^ y) (hq : q ≤ 16 * 64 ^ z) : ru * p * q ≤ 16 * 64 ^ dd := by
  have h1 : ru * p * q ≤ 4 * (16 * 64 ^ y) * (16 * 64 ^ z) := Nat.mul_le_mul (Nat.mul_le_mul hr hp) hq
  have h2 : 4 * (16 * 64 ^ y) * (16 * 64 ^ z) = 16 * 64 ^ dd := by
    rw [← hd, Nat.pow_succ, Nat.pow_add]
    generalize 64 ^ y = A
    generalize 64 ^ z = B
    rw [show 4 * (16 * A) = 64 * A by omega, Nat.mul_comm 64 A, Nat.mul_assoc A 64, Nat.mul_comm A, show 64 * (16 * B) = 1024 * B by omega, Nat.mul_assoc 1024, Nat.mul_comm B A, Nat.mul_comm (A * B) 64, ← Nat.mul_assoc 16 64]
  omega
theorem p64 {dd : Nat} (h : dd ≤ 5) : 16 * 64 ^ dd < 2 ^ 63 := by
  rcases (show dd = 0 ∨ dd = 1 ∨ dd = 2 ∨ dd = 3 ∨ dd = 4 ∨ dd = 5 by omega) with rfl | rfl | rfl | rfl | rfl | rfl <;> decide
theorem p64' (dd : Nat) : 16 ≤ 16 * 64 ^ dd := Nat.le_mul_of_pos_right 16 (Nat.pow_pos (by decide))
def invT (k : hK) (r : hR) (su ct be : hG) (D : Nat → Nat → Nat → Prop) : Prop :=
  ∀ kk a b, kk < k.2.2 → a ≤ b → b < r.2.2 → D kk a b → su kk (a * 6 + b) = fS k su (lfR k r kk a b) kk a b (b - a) ∧ ct kk (a * 6 + b) = fC k ct (lfR k r kk a b) kk a b (b - a) ∧ be kk (a * 6 + b) = fB k be (lfR k r kk a b) kk a b (b - a) ∧ be kk (a * 6 + b) ≤ 16 * 64 ^ (b - a)
def okT (k : hK) (r : hR) (su ct be : hG) : Prop := invT k r su ct be (fun _ _ _ => True)
def okK (k : hK) : Prop := k.2.2 ≤ 4 ∧ (∀ i j, k.1 i j ≤ 4) ∧ ∀ i j, k.2.1 i j ≤ 4
theorem invT_bb {k : hK} {r : hR} {su ct be : hG} {D : Nat → Nat → Nat → Prop} (h : invT k r su ct be D) {kd i j : Nat} (hk : okK k) (hn : r.2.2 ≤ 6) (hij : i ≤ j) (hj : j < r.2.2) (hD : ∀ kk a b, kk < k.2.2 → a ≤ b → b < r.2.2 → b - a < j - i → D kk a b) :
    ∀ y a b, y < j - i → a < k.2.2 → b < k.2.2 → tS k.1 be kd (i * 6 + (i + y)) ((i + 1 + y) * 6 + j) a b ≤ 16 * 64 ^ (j - i) := by
  intro y a b hy ha hb
  unfold tS
  have h1 := (h a i (i + y) ha (by omega) (by omega) (hD a i (i + y) ha (by omega) (by omega) (by omega))).2.2.2
  have h2 := (h b (i + 1 + y) j hb (by omega) hj (hD b (i + 1 + y) j hb (by omega) hj (by omega))).2.2.2
  refine tb_le (y := y) (z := j - i - 1 - y) (by omega) (hk.2.1 _ _) ?_ ?_
  · rw [show i + y - i = y by omega] at h1
    exact h1
  · rw [show j - (i + 1 + y) = j - i - 1 - y by omega] at h2
    exact h2
theorem invT_step {k : hK} {r : hR} {su ct be : hG} {D D' : Nat → Nat → Nat → Prop} {kd i j : Nat} (h : invT k r su ct be D) (hk : okK k) (hn : r.2.2 ≤ 6) (hij : i ≤ j) (hj : j < r.2.2)
    (hD : ∀ kk a b, kk < k.2.2 → a ≤ b → b < r.2.2 → b - a < j - i → D kk a b) (hs : ∀ kk a b, a ≤ b → D' kk a b → (kk = kd ∧ a = i ∧ b = j) ∨ D kk a b ∧ b - a ≤ j - i ∧ ¬ (kk = kd ∧ a = i ∧ b = j)) :
    invT k r (up2 su kd (i * 6 + j) (fS k su (lfR k r kd i j) kd i j (j - i))) (up2 ct kd (i * 6 + j) (fC k ct (lfR k r kd i j) kd i j (j - i))) (up2 be kd (i * 6 + j) (fB k be (lfR k r kd i j) kd i j (j - i))) D' := by
  intro kk a b hkk hab hb hd
  rcases hs kk a b hab hd with ⟨rfl, rfl, rfl⟩ | ⟨hd', hsz, hne⟩
  · rw [up2_self, up2_self, up2_self]
    refine ⟨(fS_up (by omega) (by omega) (Nat.le_refl _) hij).symm, (fC_up (by omega) (by omega) (Nat.le_refl _) hij).symm, (fB_up (by omega) (by omega) (Nat.le_refl _) hij).symm, ?_⟩
    have hz : fB k be (lfR k r kk a b) kk a b (b - a) < 16 * 64 ^ (b - a) + 1 := by
      unfold fB
      refine mxF_lt ?_ (fun y c e hy hc he => Nat.lt_succ_of_le (invT_bb h hk hn hij hj hD y c e hy hc he))
      have := lfR_le (k := k) (r := r) (kd := kk) (i := a) (j := b) hk.2.2
      have := p64' (b - a)
      omega
    omega
  · obtain ⟨e1, e2, e3, e4⟩ := h kk a b hkk hab hb hd'
    have hc : ¬ (kk = kd ∧ a * 6 + b = i * 6 + j) := fun q => hne ⟨q.1, by omega, by omega⟩
    rw [up2_ne hc, up2_ne hc, up2_ne hc, fS_up (by omega) (by omega) hsz hij, fC_up (by omega) (by omega) hsz hij, fB_up (by omega) (by omega) hsz hij]
    exact ⟨e1, e2, e3, e4⟩
theorem invT.mono {k : hK} {r : hR} {su ct be : hG} {D D' : Nat → Nat → Nat → Prop} (h : invT k r su ct be D) (hs : ∀ kk a b, kk < k.2.2 → a ≤ b → b < r.2.2 → D' kk a b → D kk a b) : invT k r su ct be D' := fun kk a b h1 h2 h3 h4 => h kk a b h1 h2 h3 (hs kk a b h1 h2 h3 h4)
