theorem sumR_add (g : Nat → Nat) (a m : Nat) : ∀ k, sumR g a (m + k) = sumR g a m + sumR g (a + m) k
  | 0 => rfl
  | k + 1 => by
    show sumR g a (m + k) + g (a + (m + k)) = sumR g a m + (sumR g (a + m) k + g (a + m + k))
    rw [sumR_add g a m k, ← Nat.add_assoc a m k, Nat.add_assoc]
theorem sumR_shift (g : Nat → Nat) (a b : Nat) : ∀ m, sumR g (a + b) m = sumR (fun i => g (a + i)) b m
  | 0 => rfl
  | m + 1 => by
    show sumR g (a + b) m + g (a + b + m) = sumR (fun i => g (a + i)) b m + g (a + (b + m))
    rw [sumR_shift g a b m, Nat.add_assoc a b m]
theorem sumR_sh0 (g : Nat → Nat) (a m : Nat) : sumR g a m = sumR (fun i => g (a + i)) 0 m := sumR_shift g a 0 m
theorem sumR_mul (c : Nat) (g : Nat → Nat) (a : Nat) : ∀ m, sumR (fun i => c * g i) a m = c * sumR g a m
  | 0 => rfl
  | m + 1 => by
    show sumR (fun i => c * g i) a m + c * g (a + m) = c * (sumR g a m + g (a + m))
    rw [sumR_mul c g a m, Nat.mul_add]
theorem sumR_plus (f g : Nat → Nat) (a : Nat) : ∀ m, sumR (fun i => f i + g i) a m = sumR f a m + sumR g a m
  | 0 => rfl
  | m + 1 => by
    show sumR (fun i => f i + g i) a m + (f (a + m) + g (a + m)) = sumR f a m + f (a + m) + (sumR g a m + g (a + m))
    rw [sumR_plus f g a m]
    omega
theorem sumR_0 {g : Nat → Nat} {a : Nat} : ∀ {m : Nat}, (∀ i, i < m → g (a + i) = 0) → sumR g a m = 0
  | 0, _ => rfl
  | m + 1, h => by
    show sumR g a m + g (a + m) = 0
    rw [sumR_0 (m := m) (fun i hi => h i (by omega)), h m (by omega)]
theorem sumR_left (g : Nat → Nat) (a m : Nat) : sumR g a (m + 1) = g a + sumR g (a + 1) m := by
  rw [Nat.add_comm m 1, sumR_add]
  show 0 + g (a + 0) + _ = _
  rw [Nat.zero_add, Nat.add_zero]
theorem sumR_swap (g : Nat → Nat → Nat) (a b : Nat) (k : Nat) : ∀ m, sumR (fun i => sumR (g i) b k) a m = sumR (fun j => sumR (fun i => g i j) a m) b k
  | 0 => (sumR_0 (fun i _ => rfl)).symm
  | m + 1 => by
    show sumR (fun i => sumR (g i) b k) a m + sumR (g (a + m)) b k = sumR (fun j => sumR (fun i => g i j) a m + g (a + m) j) b k
    rw [sumR_swap g a b k m, sumR_plus]
theorem sumR_blk (g : Nat → Nat) (a B : Nat) : ∀ k, sumR g a (k * B) = sumR (fun x => sumR g (a + x * B) B) 0 k
  | 0 => by rw [Nat.zero_mul]; rfl
  | k + 1 => by
    show _ = sumR (fun x => sumR g (a + x * B) B) 0 k + sumR g (a + (0 + k) * B) B
    rw [Nat.succ_mul, sumR_add, sumR_blk g a B k, Nat.zero_add]
theorem sumR_one {g : Nat → Nat} {k y : Nat} (hy : y < k) (h : ∀ i, i < k → i ≠ y → g i = 0) : sumR g 0 k = g y := by
  have e : k = y + ((k - y - 1) + 1) := by omega
  rw [e, sumR_add, sumR_left, sumR_0 (fun i hi => h _ (by omega) (by omega)), sumR_0 (fun i hi => h _ (by omega) (by omega)), Nat.zero_add, Nat.zero_add, Nat.add_zero]
theorem sumR_mono1 {f g : Nat → Nat} {a : Nat} : ∀ {m : Nat}, (∀ i, i < m → f (a + i) ≤ g (a + i)) → sumR f a m ≤ sumR g a m
  | 0, _ => Nat.le_refl _
  | m + 1, h => Nat.add_le_add (sumR_mono1 (m := m) (fun i hi => h i (by omega))) (h m (by omega))
theorem sumR_sub {g : Nat → Nat} {a m k : Nat} (h : m ≤ k) : sumR g a m ≤ sumR g a k := by
  have e : k = m + (k - m) := by omega
  rw [e, sumR_add]
  exact Nat.le_add_right _ _
theorem sumR_rev (g : Nat → Nat) (a : Nat) : ∀ m, sumR (fun i => g (a + m - 1 - i)) 0 m = sumR g a m
  | 0 => rfl
  | m + 1 => by
    rw [sumR_left, show a + (m + 1) - 1 - 0 = a + m by omega, Nat.add_comm]
    show _ = sumR g a m + g (a + m)
    rw [← sumR_rev g a m, sumR_sh0]
    congr 1
    refine sumR_congr (fun i hi => ?_)
    show g (a + (m + 1) - 1 - (0 + 1 + (0 + i))) = g (a + m - 1 - (0 + i))
    congr 1
    omega
theorem sum8 (g : Nat → Nat) : sumR g 0 8 = sumR (fun y => g (2 * y)) 0 4 + sumR (fun y => g (2 * y + 1)) 0 4 := by
  rw [sum4, sum4]
  show 0 + g (0 + 0) + g (0 + 1) + g (0 + 2) + g (0 + 3) + g (0 + 4) + g (0 + 5) + g (0 + 6) + g (0 + 7) = _
  simp only [Nat.zero_add, Nat.mul_zero, Nat.mul_one, Nat.reduceMul, Nat.reduceAdd]
  omega
theorem sumR_cut {g : Nat → Nat} {q k : Nat} (hq : q ≤ k) : sumR (fun y => if y < q then g y else 0) 0 k = sumR g 0 q := by
  have e : k = q + (k - q) := by omega
  rw [e, sumR_add, sumR_0 (m := k - q) (fun i hi => by show (if 0 + q + i < q then _ else 0) = 0; rw [if_neg (by omega)])]
  exact sumR_congr (fun i hi => by show (if 0 + i < q then _ else 0) = _; rw [if_pos (by omega)])
theorem mulR_one (f : Nat → Nat) (x b : Nat) : ∀ m, mulR f x b m = x * mulR f 1 b m
  | 0 => (Nat.mul_one x).symm
  | m + 1 => by
    show mulR f x b m * f (b + m) = x * (mulR f 1 b m * f (b + m))
    rw [mulR_one f x b m, Nat.mul_assoc]
def dL (len x : Nat) : Nat := if x % 2 = 0 then 1 else len + 1
def tw (D : Nat → Nat → Nat → Nat → Nat) (fin : Nat → Nat → Nat) (n : Nat) : Nat → Nat → Nat → Nat → Nat
  | 0, len, st, _ => fin len st
  | m + 1, len, st, c => D (n - (m + 1)) len st (c / 8 ^ m) * tw D fin n m (dL len (c / 8 ^ m)) (c / 8 ^ m / 2) (c % 8 ^ m)
def TS (D : Nat → Nat → Nat → Nat → Nat) (fin : Nat → Nat → Nat) (n m len st : Nat) : Nat := sumR (tw D fin n m len st) 0 (8 ^ m)
theorem tw_s {D : Nat → Nat → Nat → Nat → Nat} {fin : Nat → Nat → Nat} {n m len st x c : Nat} (hc : c < 8 ^ m) : tw D fin n (m + 1) len st (x * 8 ^ m + c) = D (n - (m + 1)) len st x * tw D fin n m (dL len x) (x / 2) c := by
  have hp : 0 < 8 ^ m := Nat.pow_pos (by omega)
  have e1 : (x * 8 ^ m + c) / 8 ^ m = x := by
    rw [Nat.mul_comm, Nat.mul_add_div hp, Nat.div_eq_of_lt hc, Nat.add_zero]
  have e2 : (x * 8 ^ m + c) % 8 ^ m = c := by
    rw [Nat.mul_comm, Nat.mul_add_mod, Nat.mod_eq_of_lt hc]
  show D (n - (m + 1)) len st ((x * 8 ^ m + c) / 8 ^ m) * tw D fin n m (dL len ((x * 8 ^ m + c) / 8 ^ m)) ((x * 8 ^ m + c) / 8 ^ m / 2) ((x * 8 ^ m + c) % 8 ^ m) = _
  rw [e1, e2]
theorem TS_dig {D : Nat → Nat → Nat → Nat → Nat} {fin : Nat → Nat → Nat} {n m len st x : Nat} : sumR (tw D fin n (m + 1) len st) (x * 8 ^ m) (8 ^ m) = D (n - (m + 1)) len st x * TS D fin n m (dL len x) (x / 2) := by
  unfold TS
  rw [sumR_sh0, ← sumR_mul]
  refine sumR_congr (fun i hi => ?_)
  rw [Nat.zero_add]
  exact tw_s hi
theorem TS_rec {D : Nat → Nat → Nat → Nat → Nat} {fin : Nat → Nat → Nat} {n m len st : Nat} : TS D fin n (m + 1) len st = sumR (fun x => D (n - (m + 1)) len st x * TS D fin n m (dL len x) (x / 2)) 0 8 := by
  show sumR (tw D fin n (m + 1) len st) 0 (8 ^ (m + 1)) = _
  rw [Nat.pow_succ, Nat.mul_comm, sumR_blk]
  refine sumR_congr (fun i hi => ?_)
  rw [Nat.zero_add, Nat.zero_add]
  exact TS_dig
def dW (cu : Nat → Nat) (s : hS) (f : hG) (p len st x : Nat) : Nat :=
  if p = 0 then (if x % 2 = 0 ∧ x / 2 < s.2.2 then cu (s.1 (x / 2) 0) * f 0 (x / 2) else 0)
  else if x % 2 = 0 then (if x / 2 < s.2.2 then cu (s.1 st (1 + len)) * cu (s.2.1 st (x / 2)) * f p (x / 2) else 0)
  else if x / 2 = st ∧ len < 3 then f p st else 0
def fnW (cu : Nat → Nat) (s : hS) (len st : Nat) : Nat := cu (s.1 st (1 + len)) * cu (s.1 st 1)
theorem dL_e (len y : Nat) : dL len (2 * y) = 1 := if_pos (by omega)
theorem dL_o (len y : Nat) : dL len (2 * y + 1) = len + 1 := if_neg (by omega)
theorem dW_e {cu : Nat → Nat} {s : hS} {f : hG} {p len st y : Nat} (hp : 0 < p) : dW cu s f p len st (2 * y) = if y < s.2.2 then cu (s.1 st (1 + len)) * cu (s.2.1 st y) * f p y else 0 := by
  unfold dW
  rw [if_neg (c := p = 0) (by omega), if_pos (c := 2 * y % 2 = 0) (by omega), show 2 * y / 2 = y by omega]
theorem dW_o {cu : Nat → Nat} {s : hS} {f : hG} {p len st y : Nat} (hp : 0 < p) : dW cu s f p len st (2 * y + 1) = if y = st ∧ len < 3 then f p st else 0 := by
  unfold dW
  rw [if_neg (c := p = 0) (by omega), if_neg (c := (2 * y + 1) % 2 = 0) (by omega), show (2 * y + 1) / 2 = y by omega]
theorem dW_e0 {cu : Nat → Nat} {s : hS} {f : hG} {len st y : Nat} : dW cu s f 0 len st (2 * y) = if y < s.2.2 then cu (s.1 y 0) * f 0 y else 0 := by
  unfold dW
  rw [if_pos rfl, show 2 * y / 2 = y by omega]
  by_cases h : y < s.2.2
  · rw [if_pos ⟨by omega, h⟩, if_pos h]
  · rw [if_neg (fun q => h q.2), if_neg h]
theorem dW_o0 {cu : Nat → Nat} {s : hS} {f : hG} {len st y : Nat} : dW cu s f 0 len st (2 * y + 1) = 0 := by
  unfold dW
  rw [if_pos rfl, if_neg (by omega)]
theorem dW_sum {cu : Nat → Nat} {s : hS} {f : hG} {p len st : Nat} (G : Nat → Nat → Nat) (hq : s.2.2 ≤ 4) (hp : 0 < p) (hst : st < s.2.2) :
    sumR (fun x => dW cu s f p len st x * G (dL len x) (x / 2)) 0 8 = cu (s.1 st (1 + len)) * sumR (fun y => cu (s.2.1 st y) * (f p y * G 1 y)) 0 s.2.2 + (if len < 3 then f p st * G (len + 1) st else 0) := by
  rw [sum8]
  congr 1
  · rw [← sumR_mul, ← sumR_cut hq]
    refine sumR_congr (fun i hi => ?_)
    show dW cu s f p len st (2 * (0 + i)) * G (dL len (2 * (0 + i))) (2 * (0 + i) / 2) = if 0 + i < s.2.2 then cu (s.1 st (1 + len)) * (cu (s.2.1 st (0 + i)) * (f p (0 + i) * G 1 (0 + i))) else 0
    rw [Nat.zero_add, dW_e hp, dL_e, show 2 * i / 2 = i by omega]
    by_cases h : i < s.2.2
    · rw [if_pos h, if_pos h]
      simp only [Nat.mul_assoc]
    · rw [if_neg h, if_neg h, Nat.zero_mul]
  · rw [sumR_one (y := st) (by omega) (fun i hi hne => ?_)]
    · show dW cu s f p len st (2 * st + 1) * G (dL len (2 * st + 1)) ((2 * st + 1) / 2) = _
      rw [dW_o hp, dL_o, show (2 * st + 1) / 2 = st by omega]
      by_cases h : len < 3
      · rw [if_pos ⟨rfl, h⟩, if_pos h]
      · rw [if_neg (fun q => h q.2), if_neg h, Nat.zero_mul]
    · show dW cu s f p len st (2 * i + 1) * _ = 0
      rw [dW_o hp, if_neg (fun q => hne q.1), Nat.zero_mul]
theorem dW_sum0 {cu : Nat → Nat} {s : hS} {f : hG} {len st : Nat} (G : Nat → Nat → Nat) (hq : s.2.2 ≤ 4) :
    sumR (fun x => dW cu s f 0 len st x * G (dL len x) (x / 2)) 0 8 = sumR (fun y => cu (s.1 y 0) * (f 0 y * G 1 y)) 0 s.2.2 := by
  rw [sum8, sumR_0 (g := fun y => dW cu s f 0 len st (2 * y + 1) * G (dL len (2 * y + 1)) ((2 * y + 1) / 2)) (fun i hi => ?_), Nat.add_zero, ← sumR_cut hq]
  · refine sumR_congr (fun i hi => ?_)
    show dW cu s f 0 len st (2 * (0 + i)) * G (dL len (2 * (0 + i))) (2 * (0 + i) / 2) = if 0 + i < s.2.2 then cu (s.1 (0 + i) 0) * (f 0 (0 + i) * G 1 (0 + i)) else 0
    rw [Nat.zero_add, dW_e0, dL_e, show 2 * i / 2 = i by omega]
    by_cases h : i < s.2.2
    · rw [if_pos h, if_pos h, Nat.mul_assoc]
    · rw [if_neg h, if_neg h, Nat.zero_mul]
  · show dW cu s f 0 len st (2 * (0 + i) + 1) * _ = 0
    rw [dW_o0, Nat.zero_mul]
def prd (f : hG) (st b len : Nat) : Nat := mulR (fun p => f p st) 1 b len
theorem segR_prd (cu : Nat → Nat) (s : hS) (f : hG) (bg pl st : Nat) (h : 0 < pl) : segR cu s f bg pl st = cu (s.1 st (1 + pl)) * prd f st bg pl := by
  unfold segR prd
  rw [mulR_one, show 2 + pl - 1 = 1 + pl by omega]
theorem prd_1 (f : hG) (st b : Nat) : prd f st b 1 = f b st := by
  show 1 * f (b + 0) st = f b st
  rw [Nat.one_mul]
  rfl
theorem prd_s (f : hG) (st b len : Nat) : prd f st b (len + 1) = prd f st b len * f (b + len) st := rfl
theorem lon_TS {cu : Nat → Nat} {r : hR} {s : hS} {w : hW} (hq : s.2.2 ≤ 4) (h : okW cu r s w) : ∀ (m len st : Nat), m + len ≤ r.2.2 → 1 ≤ len → len ≤ 3 → st < s.2.2 →
    prd w.1 st (r.2.2 - m - len) len * TS (dW cu s w.1) (fnW cu s) r.2.2 m len st = lonR cu s r.2.2 w.1 w.2.2.1 (len - 1) (r.2.2 - m - len) st := by
  intro m
  induction m with
  | zero =>
    intro len st h1 h2 h3 h4
    unfold lonR
    rw [show min 3 (r.2.2 - (r.2.2 - 0 - len)) - (len - 1) = 1 by omega, show len - 1 + 1 = len by omega]
    show _ * (0 + fnW cu s len st) = 0 + segR cu s w.1 (r.2.2 - 0 - len) (len + 0) st * w.2.2.1 (r.2.2 - 0 - len + (len + 0)) st
    rw [Nat.zero_add, Nat.zero_add, Nat.add_zero, show r.2.2 - 0 - len + len = r.2.2 by omega, h.2.1 st h4, segR_prd _ _ _ _ _ _ (by omega)]
    unfold fnW
    ac_rfl
  | succ m ih =>
    intro len st h1 h2 h3 h4
    have hp : r.2.2 - (m + 1) - len + len = r.2.2 - (m + 1) := by omega
    have hpn : r.2.2 - (m + 1) < r.2.2 := by omega
    have hfr : ∀ y, y < s.2.2 → w.2.1 (r.2.2 - (m + 1)) y = w.1 (r.2.2 - (m + 1)) y * TS (dW cu s w.1) (fnW cu s) r.2.2 m 1 y := by
      intro y hy
      have e := ih 1 y (by omega) (by omega) (by omega) hy
      rw [show r.2.2 - m - 1 = r.2.2 - (m + 1) by omega, prd_1] at e
      rw [e, h.2.2.1 _ y hpn hy]
    have hle : w.2.2.1 (r.2.2 - (m + 1)) st = sumR (fun y => cu (s.2.1 st y) * (w.1 (r.2.2 - (m + 1)) y * TS (dW cu s w.1) (fnW cu s) r.2.2 m 1 y)) 0 s.2.2 := by
      rw [h.2.2.2.1 _ st hpn h4]
      unfold outR
      refine sumR_congr (fun i hi => ?_)
      show _ * _ = _ * _
      rw [hfr (0 + i) (by omega)]
    rw [TS_rec, dW_sum (fun l t => TS (dW cu s w.1) (fnW cu s) r.2.2 m l t) hq (by omega) h4, ← hle]
    have hl : lonR cu s r.2.2 w.1 w.2.2.1 (len - 1) (r.2.2 - (m + 1) - len) st = segR cu s w.1 (r.2.2 - (m + 1) - len) len st * w.2.2.1 (r.2.2 - (m + 1)) st + (if len < 3 then lonR cu s r.2.2 w.1 w.2.2.1 len (r.2.2 - (m + 1) - len) st else 0) := by
      unfold lonR
      rw [show min 3 (r.2.2 - (r.2.2 - (m + 1) - len)) - (len - 1) = min 3 (r.2.2 - (r.2.2 - (m + 1) - len)) - len + 1 by omega, sumR_left, show len - 1 + 1 = len by omega, hp]
      congr 1
      split
      · rfl
      · rw [show min 3 (r.2.2 - (r.2.2 - (m + 1) - len)) - len = 0 by omega]
        rfl
    rw [hl, Nat.mul_add, segR_prd _ _ _ _ _ _ (by omega)]
    congr 1
    · ac_rfl
    · by_cases hl3 : len < 3
      · rw [if_pos hl3, if_pos hl3]
        have e := ih (len + 1) st (by omega) (by omega) (by omega) h4
        rw [show r.2.2 - m - (len + 1) = r.2.2 - (m + 1) - len by omega, prd_s, hp, show len + 1 - 1 = len by omega] at e
        rw [← e]
        ac_rfl
      · rw [if_neg hl3, if_neg hl3, Nat.mul_zero]
