def invH (k : hK) (n : Nat) (su ha : hG) (wn i j : Nat) (D : Nat → Nat → Prop) : Prop :=
  ∀ kd a b, kd < k.2.2 → a ≤ i → j ≤ b → b < n → D a b → ha kd (a * 6 + b) = if a = i ∧ b = j then (if kd = wn then su wn (i * 6 + j) else 0) else hvF k su ha kd a b i j
theorem hvF_up {k : hK} {su ha : hG} {kd a b i j a' b' q : Nat} {F : Nat → Nat} (hi : i < 6) (hb : b < 6) (hb' : b' < 6) (haj : a ≤ i) (hjb : j ≤ b) (hij : i ≤ j) (h : ¬ (a < a' ∧ a' ≤ i ∧ b' = b) ∧ ¬ (a' = a ∧ j ≤ b' ∧ b' < b)) : hvF k su (upC ha (a' * 6 + b') q F) kd a b i j = hvF k su ha kd a b i j := by
  unfold hvF
  congr 1
  · exact sumR_congr (fun y hy => by rw [tG_upr (by omega)])
  · exact sumR_congr (fun y hy => by rw [tG_upl (by omega)])
