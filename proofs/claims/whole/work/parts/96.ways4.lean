def Bf : Nat → Nat → Nat
  | 0, _ => 16
  | m + 1, len => 1024 * Bf m 1 + (if len < 3 then 16 * Bf m (len + 1) else 0)
theorem shoR_le {s : hS} {r : hR} (hs : okS s) (p st : Nat) : shoR id s r p st ≤ 16 := by
  unfold shoR
  split
  · omega
  · split
    · show sumR _ 0 4 ≤ 16
      exact sumR_le (z := 4) (fun i => hs.2.1 st (5 + i)) 4
    · exact Nat.le_trans (hs.2.1 _ _) (by omega)
theorem TS_le {s : hS} {f : hG} {n : Nat} (hs : okS s) (hf : ∀ p st, f p st ≤ 16) : ∀ m len st, m < n → st < s.2.2 → TS (dW id s f) (fnW id s) n m len st ≤ Bf m len
  | 0, len, st, _, _ => by
    show 0 + fnW id s len st ≤ 16
    rw [Nat.zero_add]
    exact Nat.mul_le_mul (hs.2.1 _ _) (hs.2.1 _ _)
  | m + 1, len, st, hm, hst => by
    rw [TS_rec, dW_sum (fun l t => TS (dW id s f) (fnW id s) n m l t) hs.1 (by omega) hst]
    show _ ≤ 1024 * Bf m 1 + _
    refine Nat.add_le_add ?_ ?_
    · have h1 : sumR (fun y => id (s.2.1 st y) * (f (n - (m + 1)) y * TS (dW id s f) (fnW id s) n m 1 y)) 0 s.2.2 ≤ s.2.2 * (4 * (16 * Bf m 1)) := by
        have : sumR (fun y => id (s.2.1 st y) * (f (n - (m + 1)) y * TS (dW id s f) (fnW id s) n m 1 y)) 0 s.2.2 ≤ sumR (fun _ => 4 * (16 * Bf m 1)) 0 s.2.2 :=
          sumR_mono1 (fun y hy => Nat.mul_le_mul (hs.2.2 _ _) (Nat.mul_le_mul (hf _ _) (TS_le hs hf m 1 _ (by omega) (by omega))))
        exact Nat.le_trans this (sumR_le (fun _ => Nat.le_refl _) _)
      have h2 : s.2.2 * (4 * (16 * Bf m 1)) ≤ 4 * (4 * (16 * Bf m 1)) := Nat.mul_le_mul_right _ hs.1
      have h3 := Nat.mul_le_mul (hs.2.1 st (1 + len)) (Nat.le_trans h1 h2)
      show s.1 st (1 + len) * _ ≤ _
      omega
    · split
      · exact Nat.mul_le_mul (hf _ _) (TS_le hs hf m _ _ (by omega) hst)
      · exact Nat.le_refl _
theorem TS_all {s : hS} {f : hG} {n : Nat} (hs : okS s) (hf : ∀ p st, f p st ≤ 16) (hn0 : 0 < n) (hn : n ≤ 6) : TS (dW id s f) (fnW id s) n n 0 0 < 2 ^ 63 := by
  have e : TS (dW id s f) (fnW id s) n n 0 0 = sumR (fun y => s.1 y 0 * (f 0 y * TS (dW id s f) (fnW id s) n (n - 1) 1 y)) 0 s.2.2 := by
    rw [show TS (dW id s f) (fnW id s) n n 0 0 = TS (dW id s f) (fnW id s) n (n - 1 + 1) 0 0 by rw [show n - 1 + 1 = n by omega], TS_rec, show n - (n - 1 + 1) = 0 by omega, dW_sum0 (fun l t => TS (dW id s f) (fnW id s) n (n - 1) l t) hs.1]
    rfl
  have h1 : TS (dW id s f) (fnW id s) n n 0 0 ≤ sumR (fun _ => 4 * (16 * Bf (n - 1) 1)) 0 s.2.2 := by
    rw [e]
    exact sumR_mono1 (fun y hy => Nat.mul_le_mul (hs.2.1 _ _) (Nat.mul_le_mul (hf _ _) (TS_le hs hf _ 1 _ (by omega) (by omega))))
  have h2 : sumR (fun _ => 4 * (16 * Bf (n - 1) 1)) 0 s.2.2 ≤ 4 * (4 * (16 * Bf (n - 1) 1)) := Nat.le_trans (sumR_le (fun _ => Nat.le_refl _) _) (Nat.mul_le_mul_right _ hs.1)
  refine Nat.lt_of_le_of_lt (Nat.le_trans h1 h2) ?_
  obtain rfl | rfl | rfl | rfl | rfl | rfl : n = 1 ∨ n = 2 ∨ n = 3 ∨ n = 4 ∨ n = 5 ∨ n = 6 := by omega
  all_goals decide
def relW (r : hR) (s : hS) (ms : hA) (mp : hP) : Prop := okR r ∧ okH r ∧ okS s ∧ relS s ms ∧ r = vR mp
theorem relW_tw {r : hR} {s : hS} {ms : hA} {mp : hP} (h : relW r s ms mp) {f : hG} (hf : ∀ p st, p < r.2.2 → st < s.2.2 → f p st = shoR id s r p st) (hn0 : 0 < r.2.2) {c : Nat} (hc : c < 8 ^ r.2.2) : wtc ms mp c = tw (dW id s f) (fnW id s) r.2.2 r.2.2 0 0 c := wtc_tw h.1 h.2.1 h.2.2.1.1 h.2.2.2.1 h.2.2.2.2 hf hn0 hc
theorem relW_sum {r : hR} {s : hS} {ms : hA} {mp : hP} (h : relW r s ms mp) {f : hG} (hf : ∀ p st, p < r.2.2 → st < s.2.2 → f p st = shoR id s r p st) (hn0 : 0 < r.2.2) : sumR (wtc ms mp) 0 (8 ^ r.2.2) = TS (dW id s f) (fnW id s) r.2.2 r.2.2 0 0 := by
  unfold TS
  refine sumR_congr (fun c hc => ?_)
  rw [Nat.zero_add]
  exact relW_tw h hf hn0 hc
theorem relW_n {r : hR} {s : hS} {ms : hA} {mp : hP} (h : relW r s ms mp) : mp.1 = r.2.2 := by rw [h.2.2.2.2]; rfl
theorem relW_lt {r : hR} {s : hS} {ms : hA} {mp : hP} (h : relW r s ms mp) : sumR (wtc ms mp) 0 (FB mp.1) < 2 ^ 63 := by
  rw [relW_n h]
  unfold FB
  by_cases hn0 : r.2.2 = 0
  · rw [if_pos hn0]
    show 0 < 2 ^ 63
    decide
  · rw [if_neg hn0, relW_sum h (f := fun p st => shoR id s r p st) (fun _ _ _ _ => rfl) (by omega)]
    exact TS_all h.2.2.1 (fun p st => shoR_le h.2.2.1 p st) (by omega) h.1.1
theorem eq_total {r : hR} {s : hS} {ms : hA} {mp : hP} {w : hW} (h : relW r s ms mp) (hw : okW id r s w) : (if r.2.2 = 0 then 0 else sumR (fun y => w.2.2.2.2.1 0 y * w.2.1 0 y) 0 s.2.2) = sumR (wtc ms mp) 0 (FB mp.1) := by
  rw [relW_n h]
  unfold FB
  by_cases hn0 : r.2.2 = 0
  · rw [if_pos hn0, if_pos hn0]
    rfl
  · rw [if_neg hn0, if_neg hn0, relW_sum h hw.1 (by omega), whole_TS h.2.2.1.1 hw (by omega)]
theorem masked {r : hR} {s : hS} {ms : hA} {mp : hP} {w : hW} (h : relW r s ms mp) (hw : okW id r s w) (hn0 : 0 < r.2.2) {mu : Nat → Nat → Bool} (cond : Nat → Prop) [hd : ∀ c, Decidable (cond c)] (hc : ∀ c, c < 8 ^ r.2.2 → (cond c ↔ ∀ j, j < r.2.2 → mu j (dgt r.2.2 c j) = true)) :
    sumR (fun c => if cond c then wtc ms mp c else 0) 0 (8 ^ r.2.2) = TS (Dm mu (dW id s w.1)) (fnW id s) r.2.2 r.2.2 0 0 := by
  rw [← TS_mask cond hc]
  refine sumR_congr (fun c hc => ?_)
  simp only [Nat.zero_add]
  rw [relW_tw h hw.1 hn0 hc]
theorem eq_share {r : hR} {s : hS} {ms : hA} {mp : hP} {w : hW} (h : relW r s ms mp) (hw : okW id r s w) {mc : hC} (hA : knM ms mp mc) {p st : Nat} (hp : p < r.2.2) (hst : st < s.2.2) : sumR (fun y => w.2.2.2.2.1 y st * lonR id s r.2.2 w.1 w.2.2.1 (p - y) y st) (p - 2) (p + 1 - (p - 2)) = mc.2.2.2.1 (4 * p + st) := by
  have hn := relW_n h
  have h6 := h.1.1
  have hq := h.2.2.1.1
  rw [hA.2.2.2.1 (4 * p + st) (by omega), hn]
  unfold FB
  rw [if_neg (by omega), show (4 * p + st) / 4 = p by omega, show (4 * p + st) % 4 = st by omega, ← over_TS h.2.2.1.1 hw hp hst]
  refine (masked h hw (by omega) _ (fun c hc => ?_)).symm
  constructor
  · intro q j hj
    exact decide_eq_true (fun e => by subst e; exact q.2)
  · intro q
    exact ⟨hp, of_decide_eq_true (p := (p = p → dgt r.2.2 c p / 2 = st)) (q p hp) rfl⟩
theorem eq_begin {r : hR} {s : hS} {ms : hA} {mp : hP} {w : hW} (h : relW r s ms mp) (hw : okW id r s w) {mc : hC} (hA : knM ms mp mc) {p st : Nat} (hp : p < r.2.2) (hst : st < s.2.2) : w.2.2.2.2.1 p st * w.2.1 p st = mc.2.2.2.2.1 (4 * p + st) := by
  have hn := relW_n h
  have h6 := h.1.1
  have hq := h.2.2.1.1
  rw [hA.2.2.2.2.1 (4 * p + st) (by omega), hn]
  unfold FB
  rw [if_neg (by omega), show (4 * p + st) / 4 = p by omega, show (4 * p + st) % 4 = st by omega, ← begin_TS h.2.2.1.1 hw hp hst]
  refine (masked h hw (by omega) _ (fun c hc => ?_)).symm
  constructor
  · intro q j hj
    exact decide_eq_true (fun e => by subst e; exact q.2)
  · intro q
    exact ⟨hp, of_decide_eq_true (p := (p = p → dgt r.2.2 c p = 2 * st)) (q p hp) rfl⟩
theorem eq_pair {r : hR} {s : hS} {ms : hA} {mp : hP} {w : hW} (h : relW r s ms mp) (hw : okW id r s w) {mc : hC} (hA : knM ms mp mc) {p a z : Nat} (hp : p + 1 < r.2.2) (ha : a < s.2.2) (hz : z < s.2.2) : w.2.2.2.1 (p + 1) a * id (s.2.1 a z) * w.2.1 (p + 1) z = mc.2.2.2.2.2.1 (16 * p + 4 * a + z) := by
  have hn := relW_n h
  have h6 := h.1.1
  have hq := h.2.2.1.1
  rw [hA.2.2.2.2.2.1 (16 * p + 4 * a + z) (by omega), hn]
  unfold FB
  rw [if_neg (by omega), show (16 * p + 4 * a + z) / 16 = p by omega, show (16 * p + 4 * a + z) / 4 % 4 = a by omega, show (16 * p + 4 * a + z) % 4 = z by omega, ← moving_TS h.2.2.1.1 hw hp ha hz]
  refine (masked h hw (by omega) _ (fun c hc => ?_)).symm
  constructor
  · intro q j hj
    exact decide_eq_true ⟨fun e => by subst e; exact q.2.2.1, fun e => by subst e; exact q.2.2.2⟩
  · intro q
    have q1 := of_decide_eq_true (p := ((p = p → dgt r.2.2 c p / 2 = a) ∧ (p = p + 1 → dgt r.2.2 c p = 2 * z))) (q p (by omega))
    have q2 := of_decide_eq_true (p := ((p + 1 = p → dgt r.2.2 c (p + 1) / 2 = a) ∧ (p + 1 = p + 1 → dgt r.2.2 c (p + 1) = 2 * z))) (q (p + 1) hp)
    exact ⟨by omega, hp, q1.1 rfl, q2.2 rfl⟩
theorem sumR_if_le {g : Nat → Nat} {cond : Nat → Prop} [hd : ∀ c, Decidable (cond c)] (B : Nat) : sumR (fun c => if cond c then g c else 0) 0 B ≤ sumR g 0 B :=
  sumR_mono1 (fun i _ => by show (if _ then _ else 0) ≤ _; split <;> omega)
theorem lt_share {r : hR} {s : hS} {ms : hA} {mp : hP} (h : relW r s ms mp) {mc : hC} (hA : knM ms mp mc) {j : Nat} (hj : j < 24) : mc.2.2.2.1 j < 2 ^ 63 := by
  rw [hA.2.2.2.1 j hj]
  exact Nat.lt_of_le_of_lt (sumR_if_le _) (relW_lt h)
theorem lt_begin {r : hR} {s : hS} {ms : hA} {mp : hP} (h : relW r s ms mp) {mc : hC} (hA : knM ms mp mc) {j : Nat} (hj : j < 24) : mc.2.2.2.2.1 j < 2 ^ 63 := by
  rw [hA.2.2.2.2.1 j hj]
  exact Nat.lt_of_le_of_lt (sumR_if_le _) (relW_lt h)
theorem lt_pair {r : hR} {s : hS} {ms : hA} {mp : hP} (h : relW r s ms mp) {mc : hC} (hA : knM ms mp mc) {j : Nat} (hj : j < 96) : mc.2.2.2.2.2.1 j < 2 ^ 63 := by
  rw [hA.2.2.2.2.2.1 j hj]
  exact Nat.lt_of_le_of_lt (sumR_if_le _) (relW_lt h)
theorem cuC_mul (a b : Nat) : cuC (a * b) = cuC a * cuC b := by
  unfold cuC
  rcases Nat.eq_zero_or_pos a with rfl | ha
  · simp
  · rcases Nat.eq_zero_or_pos b with rfl | hb
    · simp
    · rw [Nat.min_eq_right (Nat.mul_pos ha hb), Nat.min_eq_right ha, Nat.min_eq_right hb]
theorem cuC_0 : cuC 0 = 0 := rfl
theorem shoR_cu {s : hS} {r : hR} (p st : Nat) : shoR cuC s r p st = cuC (shoR id s r p st) := by
  unfold shoR
  split
  · rfl
  · split <;> rfl
theorem dW_cu {s : hS} {f g : hG} {n p len st x : Nat} (hg : ∀ p st, p < n → st < s.2.2 → g p st = cuC (f p st)) (hp : p < n) (hst : p = 0 ∨ st < s.2.2) : dW cuC s g p len st x = cuC (dW id s f p len st x) ∧ (dW id s f p len st x = 0 ∨ x / 2 < s.2.2) := by
  unfold dW
  by_cases h0 : p = 0
  · subst h0
    rw [if_pos rfl, if_pos rfl]
    by_cases e : x % 2 = 0 ∧ x / 2 < s.2.2
    · rw [if_pos e, if_pos e, cuC_mul, hg 0 _ hp e.2]
      exact ⟨rfl, Or.inr e.2⟩
    · rw [if_neg e, if_neg e]
      exact ⟨rfl, Or.inl rfl⟩
  · have hst : st < s.2.2 := by omega
    rw [if_neg h0, if_neg h0]
    by_cases e : x % 2 = 0
    · rw [if_pos e, if_pos e]
      by_cases e2 : x / 2 < s.2.2
      · rw [if_pos e2, if_pos e2, cuC_mul, cuC_mul, hg p _ hp e2]
        exact ⟨rfl, Or.inr e2⟩
      · rw [if_neg e2, if_neg e2]
        exact ⟨rfl, Or.inl rfl⟩
    · rw [if_neg e, if_neg e]
      by_cases e2 : x / 2 = st ∧ len < 3
      · rw [if_pos e2, if_pos e2, hg p _ hp hst]
        exact ⟨rfl, Or.inr (by omega)⟩
      · rw [if_neg e2, if_neg e2]
        exact ⟨rfl, Or.inl rfl⟩
theorem tw_cu {s : hS} {f g : hG} {n : Nat} (hg : ∀ p st, p < n → st < s.2.2 → g p st = cuC (f p st)) : ∀ m len st c, m ≤ n → (m = n ∨ st < s.2.2) → tw (dW cuC s g) (fnW cuC s) n m len st c = cuC (tw (dW id s f) (fnW id s) n m len st c)
  | 0, len, st, c, _, _ => by
    show fnW cuC s len st = cuC (fnW id s len st)
    unfold fnW
    rw [cuC_mul]
    rfl
  | m + 1, len, st, c, hm, hst => by
    show dW cuC s g (n - (m + 1)) len st (c / 8 ^ m) * tw (dW cuC s g) (fnW cuC s) n m (dL len (c / 8 ^ m)) (c / 8 ^ m / 2) (c % 8 ^ m) = cuC (dW id s f (n - (m + 1)) len st (c / 8 ^ m) * tw (dW id s f) (fnW id s) n m (dL len (c / 8 ^ m)) (c / 8 ^ m / 2) (c % 8 ^ m))
    obtain ⟨e1, e2⟩ := dW_cu (s := s) (f := f) (g := g) (n := n) (p := n - (m + 1)) (len := len) (st := st) (x := c / 8 ^ m) hg (by omega) (by omega)
    rw [cuC_mul, e1]
    rcases e2 with e2 | e2
    · rw [e2, cuC_0, Nat.zero_mul, Nat.zero_mul]
    · rw [tw_cu hg m _ _ _ (by omega) (Or.inr e2)]
theorem eq_ways {r : hR} {s : hS} {ms : hA} {mp : hP} {w : hW} (h : relW r s ms mp) (hw : okW cuC r s w) {mc : hC} (hA : knM ms mp mc) : (if r.2.2 = 0 then 0 else sumR (fun y => w.2.2.2.2.1 0 y * w.2.1 0 y) 0 s.2.2) = mc.2.2.1 := by
  rw [hA.2.2.1, relW_n h]
  unfold FB
  by_cases hn0 : r.2.2 = 0
  · rw [if_pos hn0, if_pos hn0]
    rfl
  · rw [if_neg hn0, if_neg hn0, ← whole_TS h.2.2.1.1 hw (by omega)]
    unfold TS
    refine sumR_congr (fun c hc => ?_)
    rw [tw_cu (f := fun p st => shoR id s r p st) (fun p st h1 h2 => by rw [hw.1 p st h1 h2, shoR_cu]) _ _ _ _ (Nat.le_refl _) (Or.inl rfl), Nat.zero_add, ← relW_tw h (fun _ _ _ _ => rfl) (by omega) hc]
    unfold cuC
    split <;> omega
