theorem tS_up {ru f : hG} {kd sp x l1 l2 a : Nat} (h1 : l1 ≠ sp) (h2 : l2 ≠ sp) : tS ru (up2 f kd sp x) a l1 l2 = tS ru f a l1 l2 := by
  funext b c
  unfold tS
  rw [up2_ne (fun q => h1 q.2), up2_ne (fun q => h2 q.2)]
theorem tC_up {ru f : hG} {kd sp x l1 l2 a : Nat} (h1 : l1 ≠ sp) (h2 : l2 ≠ sp) : tC ru (up2 f kd sp x) a l1 l2 = tC ru f a l1 l2 := by
  funext b c
  unfold tC
  rw [up2_ne (fun q => h1 q.2), up2_ne (fun q => h2 q.2)]
def mxF (T : Nat → Nat → Nat → Nat) (x q : Nat) : Nat → Nat
  | 0 => x
  | e + 1 => max2 (T e) (mxF T x q e) q q
theorem mxF_lt {T : Nat → Nat → Nat → Nat} {x q z : Nat} (hx : x < z) : ∀ {m : Nat}, (∀ y i j, y < m → i < q → j < q → T y i j < z) → mxF T x q m < z
  | 0, _ => hx
  | m + 1, hg => max2_lt (mxF_lt hx (fun y i j hy hi hj => hg y i j (by omega) hi hj)) (fun i j hi hj => hg m i j (by omega) hi hj)
def lfR (k : hK) (r : hR) (kd i j : Nat) : Nat := if i = j then leaR k kd (r.1 i) else 0
def fS (k : hK) (su : hG) (lf kd i j e : Nat) : Nat := lf + sumR (fun y => sum2 (tS k.1 su kd (i * 6 + (i + y)) ((i + 1 + y) * 6 + j)) k.2.2) 0 e
def fC (k : hK) (ct : hG) (lf kd i j e : Nat) : Nat := min lf 1 + sumR (fun y => sum2 (tC k.1 ct kd (i * 6 + (i + y)) ((i + 1 + y) * 6 + j)) k.2.2) 0 e
def fB (k : hK) (be : hG) (lf kd i j e : Nat) : Nat := mxF (fun y => tS k.1 be kd (i * 6 + (i + y)) ((i + 1 + y) * 6 + j)) lf k.2.2 e
theorem fS_succ (k : hK) (su : hG) (lf kd i j e : Nat) : fS k su lf kd i j (e + 1) = fS k su lf kd i j e + sum2 (tS k.1 su kd (i * 6 + (i + e)) ((i + 1 + e) * 6 + j)) k.2.2 := by
  unfold fS
  show lf + (sumR _ 0 e + sum2 (tS k.1 su kd (i * 6 + (i + (0 + e))) ((i + 1 + (0 + e)) * 6 + j)) k.2.2) = _
  rw [Nat.zero_add, Nat.add_assoc lf]
theorem fC_succ (k : hK) (su : hG) (lf kd i j e : Nat) : fC k su lf kd i j (e + 1) = fC k su lf kd i j e + sum2 (tC k.1 su kd (i * 6 + (i + e)) ((i + 1 + e) * 6 + j)) k.2.2 := by
  unfold fC
  show min lf 1 + (sumR _ 0 e + sum2 (tC k.1 su kd (i * 6 + (i + (0 + e))) ((i + 1 + (0 + e)) * 6 + j)) k.2.2) = _
  rw [Nat.zero_add, Nat.add_assoc (min lf 1)]
theorem fB_succ (k : hK) (su : hG) (lf kd i j e : Nat) : fB k su lf kd i j (e + 1) = max2 (tS k.1 su kd (i * 6 + (i + e)) ((i + 1 + e) * 6 + j)) (fB k su lf kd i j e) k.2.2 k.2.2 := rfl
