def Dm (mu : Nat → Nat → Bool) (D : Nat → Nat → Nat → Nat → Nat) (p len st x : Nat) : Nat := if mu p x = true then D p len st x else 0
theorem dgt_0 {m x c : Nat} (hc : c < 8 ^ m) (hx : x < 8) : dgt (m + 1) (x * 8 ^ m + c) 0 = x := by
  have hp : 0 < 8 ^ m := Nat.pow_pos (by omega)
  unfold dgt
  rw [show m + 1 - 1 - 0 = m by omega, Nat.mul_comm, Nat.mul_add_div hp, Nat.div_eq_of_lt hc]
  omega
theorem dgt_s {m x c j : Nat} (hj : j < m) : dgt (m + 1) (x * 8 ^ m + c) (j + 1) = dgt m c j := by
  have hp : 0 < 8 ^ (m - 1 - j) := Nat.pow_pos (by omega)
  unfold dgt
  rw [show m + 1 - 1 - (j + 1) = m - 1 - j by omega]
  have e : 8 ^ m = 8 ^ (m - 1 - j) * (8 * 8 ^ j) := by
    rw [← Nat.mul_assoc, ← Nat.pow_succ, ← Nat.pow_add, show m - 1 - j + 1 + j = m by omega]
  rw [e, show x * (8 ^ (m - 1 - j) * (8 * 8 ^ j)) = 8 ^ (m - 1 - j) * (8 * (x * 8 ^ j)) by ac_rfl, Nat.mul_add_div hp, Nat.mul_add_mod]
theorem tw_cut {D : Nat → Nat → Nat → Nat → Nat} {fin : Nat → Nat → Nat} {n m len st c : Nat} (h : c < 8 ^ (m + 1)) : ∃ x c1, x < 8 ∧ c1 < 8 ^ m ∧ c = x * 8 ^ m + c1 ∧ tw D fin n (m + 1) len st c = D (n - (m + 1)) len st x * tw D fin n m (dL len x) (x / 2) c1 := by
  have hp : 0 < 8 ^ m := Nat.pow_pos (by omega)
  refine ⟨c / 8 ^ m, c % 8 ^ m, ?_, Nat.mod_lt _ hp, ?_, rfl⟩
  · rw [Nat.pow_succ] at h
    exact Nat.div_lt_of_lt_mul h
  · rw [Nat.mul_comm]
    exact (Nat.div_add_mod c (8 ^ m)).symm
theorem tw_y {mu : Nat → Nat → Bool} {D : Nat → Nat → Nat → Nat → Nat} {fin : Nat → Nat → Nat} {n : Nat} : ∀ (m len st c : Nat), m ≤ n → c < 8 ^ m → (∀ j, j < m → mu (n - m + j) (dgt m c j) = true) → tw (Dm mu D) fin n m len st c = tw D fin n m len st c
  | 0, _, _, _, _, _, _ => rfl
  | m + 1, len, st, c, hm, hc, h => by
    obtain ⟨x, c1, hx, h1, rfl, -⟩ := tw_cut (D := D) (fin := fin) (n := n) (len := len) (st := st) hc
    rw [tw_s h1, tw_s h1]
    have h0 := h 0 (by omega)
    rw [dgt_0 h1 hx, Nat.add_zero] at h0
    rw [tw_y m (dL len x) (x / 2) c1 (by omega) h1 (fun j hj => by
      have := h (j + 1) (by omega)
      rw [dgt_s hj, show n - (m + 1) + (j + 1) = n - m + j by omega] at this
      exact this)]
    unfold Dm
    rw [if_pos h0]
theorem tw_n {mu : Nat → Nat → Bool} {D : Nat → Nat → Nat → Nat → Nat} {fin : Nat → Nat → Nat} {n : Nat} : ∀ (m len st c : Nat), m ≤ n → c < 8 ^ m → (¬ ∀ j, j < m → mu (n - m + j) (dgt m c j) = true) → tw (Dm mu D) fin n m len st c = 0
  | 0, _, _, _, _, _, h => absurd (fun j hj => absurd hj (by omega)) h
  | m + 1, len, st, c, hm, hc, h => by
    obtain ⟨x, c1, hx, h1, rfl, -⟩ := tw_cut (D := D) (fin := fin) (n := n) (len := len) (st := st) hc
    rw [tw_s h1]
    by_cases h0 : mu (n - (m + 1)) x = true
    · rw [tw_n m (dL len x) (x / 2) c1 (by omega) h1 (fun q => h (fun j hj => ?_)), Nat.mul_zero]
      rcases j with _ | j
      · rw [dgt_0 h1 hx]
        exact h0
      · rw [dgt_s (by omega), show n - (m + 1) + (j + 1) = n - m + j by omega]
        exact q j (by omega)
    · unfold Dm
      rw [if_neg h0, Nat.zero_mul]
theorem TS_mask {mu : Nat → Nat → Bool} {D : Nat → Nat → Nat → Nat → Nat} {fin : Nat → Nat → Nat} {n l t : Nat} (cond : Nat → Prop) [hd : ∀ c, Decidable (cond c)] (hc : ∀ c, c < 8 ^ n → (cond c ↔ ∀ j, j < n → mu j (dgt n c j) = true)) :
    sumR (fun c => if cond c then tw D fin n n l t c else 0) 0 (8 ^ n) = TS (Dm mu D) fin n n l t := by
  unfold TS
  refine sumR_congr (fun c h => ?_)
  rw [Nat.zero_add]
  by_cases e : cond c
  · rw [if_pos e, tw_y n l t c (Nat.le_refl _) h (fun j hj => by rw [show n - n + j = j by omega]; exact (hc c h).mp e j hj)]
  · rw [if_neg e, tw_n n l t c (Nat.le_refl _) h (fun q => e ((hc c h).mpr (fun j hj => by have := q j hj; rw [show n - n + j = j by omega] at this; exact this)))]
theorem TS_congr {D D' : Nat → Nat → Nat → Nat → Nat} {fin : Nat → Nat → Nat} {n : Nat} : ∀ (m len st : Nat), m ≤ n → (∀ p, n - m ≤ p → p < n → D p = D' p) → TS D fin n m len st = TS D' fin n m len st
  | 0, _, _, _, _ => rfl
  | m + 1, len, st, hm, h => by
    rw [TS_rec, TS_rec, h (n - (m + 1)) (by omega) (by omega)]
    refine sumR_congr (fun x hx => ?_)
    show _ * _ = _ * _
    rw [TS_congr m _ _ (by omega) (fun p h1 h2 => h p (by omega) h2)]
def IP (s : hS) (w : hW) (p : Nat) (G : Nat → Nat → Nat) : Nat := sumR (fun st => sumR (fun i => w.2.2.2.2.1 (p - 1 - i) st * prd w.1 st (p - 1 - i) (i + 1) * G (i + 1) st) 0 (min 3 p)) 0 s.2.2
theorem IP_congr {s : hS} {w : hW} {p : Nat} {G G' : Nat → Nat → Nat} (h : ∀ len st, 1 ≤ len → st < s.2.2 → G len st = G' len st) : IP s w p G = IP s w p G' := by
  unfold IP
  refine sumR_congr (fun st hst => sumR_congr (fun i hi => ?_))
  show _ * _ = _ * _
  rw [h _ _ (by omega) (by omega)]
theorem IP_first {cu : Nat → Nat} {r : hR} {s : hS} {w : hW} (hq : s.2.2 ≤ 4) (h : okW cu r s w) (hn : 0 < r.2.2) (G : Nat → Nat → Nat) (l t : Nat) :
    sumR (fun x => dW cu s w.1 0 l t x * G (dL l x) (x / 2)) 0 8 = IP s w 1 G := by
  rw [dW_sum0 G hq]
  unfold IP
  refine sumR_congr (fun st hst => ?_)
  show _ = 0 + w.2.2.2.2.1 (1 - 1 - (0 + 0)) (0 + st) * prd w.1 (0 + st) (1 - 1 - (0 + 0)) (0 + 0 + 1) * G (0 + 0 + 1) (0 + st)
  rw [Nat.zero_add, Nat.zero_add]
  have e := h.2.2.2.2.1 0 st hn hst
  rw [if_pos rfl] at e
  rw [show 1 - 1 - (0 + 0) = 0 by omega, show 0 + 0 + 1 = 1 by omega, prd_1, e, Nat.mul_assoc]
theorem IP_step {cu : Nat → Nat} {r : hR} {s : hS} {w : hW} (hq : s.2.2 ≤ 4) (h : okW cu r s w) {p : Nat} (hp0 : 0 < p) (hp : p < r.2.2) (G : Nat → Nat → Nat) :
    IP s w p (fun len st => sumR (fun x => dW cu s w.1 p len st x * G (dL len x) (x / 2)) 0 8) = IP s w (p + 1) G := by
  have hU : ∀ st, st < s.2.2 → w.2.2.2.1 p st = sumR (fun i => w.2.2.2.2.1 (p - 1 - i) st * prd w.1 st (p - 1 - i) (i + 1) * cu (s.1 st (1 + (i + 1)))) 0 (min 3 p) := by
    intro st hst
    have e := h.2.2.2.2.2 (p - 1) st (by omega) hst
    rw [show p - 1 + 1 = p by omega] at e
    rw [e]
    unfold endR
    rw [sumR_sh0]
    refine sumR_congr (fun i hi => ?_)
    show w.2.2.2.2.1 (p - (1 + (0 + i))) st * segR cu s w.1 (p - (1 + (0 + i))) (1 + (0 + i)) st = _
    rw [segR_prd _ _ _ _ _ _ (by omega), show p - (1 + (0 + i)) = p - 1 - (0 + i) by omega, show 1 + (0 + i) = 0 + i + 1 by omega]
    ac_rfl
  have hE : ∀ y, y < s.2.2 → w.2.2.2.2.1 p y = sumR (fun st => w.2.2.2.1 p st * cu (s.2.1 st y)) 0 s.2.2 := by
    intro y hy
    have e := h.2.2.2.2.1 p y hp hy
    rw [if_neg (by omega)] at e
    exact e
  have hL : IP s w p (fun len st => sumR (fun x => dW cu s w.1 p len st x * G (dL len x) (x / 2)) 0 8) = sumR (fun st => w.2.2.2.1 p st * sumR (fun y => cu (s.2.1 st y) * (w.1 p y * G 1 y)) 0 s.2.2) 0 s.2.2 + sumR (fun st => sumR (fun i => if i < min 3 (p + 1) - 1 then w.2.2.2.2.1 (p - 1 - i) st * prd w.1 st (p - 1 - i) (i + 1) * (w.1 p st * G (i + 2) st) else 0) 0 (min 3 p)) 0 s.2.2 := by
    rw [← sumR_plus]
    unfold IP
    refine sumR_congr (fun st hst => ?_)
    simp only [Nat.zero_add]
    rw [hU st hst, Nat.mul_comm (sumR _ _ _), ← sumR_mul, ← sumR_plus]
    refine sumR_congr (fun i hi => ?_)
    simp only [Nat.zero_add]
    rw [dW_sum G hq hp0 hst, Nat.mul_add]
    congr 1
    · ac_rfl
    · by_cases hi3 : i + 1 < 3
      · rw [if_pos hi3, if_pos (by omega)]
      · rw [if_neg hi3, if_neg (by omega), Nat.mul_zero]
  rw [hL]
  have hR : IP s w (p + 1) G = sumR (fun st => w.2.2.2.2.1 p st * (w.1 p st * G 1 st)) 0 s.2.2 + sumR (fun st => sumR (fun i => w.2.2.2.2.1 (p - 1 - i) st * prd w.1 st (p - 1 - i) (i + 1) * (w.1 p st * G (i + 2) st)) 0 (min 3 (p + 1) - 1)) 0 s.2.2 := by
    rw [← sumR_plus]
    unfold IP
    refine sumR_congr (fun st hst => ?_)
    simp only [Nat.zero_add]
    rw [show min 3 (p + 1) = min 3 (p + 1) - 1 + 1 by omega, sumR_left]
    congr 1
    · rw [show p + 1 - 1 - 0 = p by omega, prd_1, Nat.mul_assoc]
    · rw [sumR_sh0, show min 3 (p + 1) - 1 + 1 - 1 = min 3 (p + 1) - 1 by omega]
      refine sumR_congr (fun i hi => ?_)
      simp only [Nat.zero_add]
      rw [show p + 1 - 1 - (1 + i) = p - 1 - i by omega, show 1 + i + 1 = i + 1 + 1 by omega, prd_s, show p - 1 - i + (i + 1) = p by omega]
      simp only [Nat.mul_assoc]
  rw [hR]
  congr 1
  · rw [show (fun st => w.2.2.2.1 p st * sumR (fun y => cu (s.2.1 st y) * (w.1 p y * G 1 y)) 0 s.2.2) = fun st => sumR (fun y => w.2.2.2.1 p st * (cu (s.2.1 st y) * (w.1 p y * G 1 y))) 0 s.2.2 from funext fun st => (sumR_mul _ _ _ _).symm, sumR_swap]
    refine sumR_congr (fun y hy => ?_)
    simp only [Nat.zero_add]
    rw [hE y hy, Nat.mul_comm (sumR _ _ _), ← sumR_mul]
    refine sumR_congr (fun st hst => ?_)
    simp only [Nat.zero_add]
    ac_rfl
  · refine sumR_congr (fun st hst => ?_)
    exact sumR_cut (g := fun i => w.2.2.2.2.1 (p - 1 - i) (0 + st) * prd w.1 (0 + st) (p - 1 - i) (i + 1) * (w.1 p (0 + st) * G (i + 2) (0 + st))) (by omega)
theorem IP_chain {cu : Nat → Nat} {r : hR} {s : hS} {w : hW} (hq : s.2.2 ≤ 4) (h : okW cu r s w) {D : Nat → Nat → Nat → Nat → Nat} {fin : Nat → Nat → Nat} (l t : Nat) : ∀ k, k < r.2.2 → (∀ p, p ≤ k → D p = dW cu s w.1 p) → TS D fin r.2.2 r.2.2 l t = IP s w (k + 1) (fun len st => TS D fin r.2.2 (r.2.2 - k - 1) len st)
  | 0, hk, hD => by
    rw [show TS D fin r.2.2 r.2.2 l t = TS D fin r.2.2 (r.2.2 - 1 + 1) l t by rw [show r.2.2 - 1 + 1 = r.2.2 by omega], TS_rec, show r.2.2 - (r.2.2 - 1 + 1) = 0 by omega, hD 0 (Nat.le_refl _)]
    exact IP_first hq h hk (fun len st => TS D fin r.2.2 (r.2.2 - 1) len st) l t
  | k + 1, hk, hD => by
    rw [IP_chain hq h l t k (by omega) (fun p hp => hD p (by omega)), ← IP_step hq h (by omega) hk]
    refine IP_congr (fun len st h1 h2 => ?_)
    rw [show r.2.2 - k - 1 = r.2.2 - (k + 1) - 1 + 1 by omega, TS_rec, show r.2.2 - (r.2.2 - (k + 1) - 1 + 1) = k + 1 by omega, hD (k + 1) (Nat.le_refl _)]
theorem IP_mask {cu : Nat → Nat} {r : hR} {s : hS} {w : hW} (hq : s.2.2 ≤ 4) (h : okW cu r s w) {D : Nat → Nat → Nat → Nat → Nat} {fin : Nat → Nat → Nat} {l t k : Nat} (hk : k < r.2.2) (hD : ∀ p, p < k → D p = dW cu s w.1 p) {G : Nat → Nat → Nat} (hm : ∀ len st x, (k = 0 ∨ 1 ≤ len) → x < 8 → D k len st x * TS D fin r.2.2 (r.2.2 - k - 1) (dL len x) (x / 2) = dW cu s w.1 k len st x * G (dL len x) (x / 2)) : TS D fin r.2.2 r.2.2 l t = IP s w (k + 1) G := by
  have hT : ∀ len st, (k = 0 ∨ 1 ≤ len) → TS D fin r.2.2 (r.2.2 - k) len st = sumR (fun x => dW cu s w.1 k len st x * G (dL len x) (x / 2)) 0 8 := by
    intro len st hl
    rw [show r.2.2 - k = r.2.2 - k - 1 + 1 by omega, TS_rec, show r.2.2 - (r.2.2 - k - 1 + 1) = k by omega]
    refine sumR_congr (fun x hx => ?_)
    rw [Nat.zero_add]
    exact hm len st x hl hx
  rcases Nat.eq_zero_or_pos k with rfl | hk0
  · have e := hT l t (Or.inl rfl)
    rw [Nat.sub_zero] at e
    rw [e]
    exact IP_first hq h hk G l t
  · have e := IP_chain hq h (D := D) (fin := fin) l t (k - 1) (by omega) (fun p hp => hD p (by omega))
    rw [e, ← IP_step hq h hk0 hk, show k - 1 + 1 = k by omega]
    refine IP_congr (fun len st h1 h2 => ?_)
    rw [show r.2.2 - (k - 1) - 1 = r.2.2 - k by omega, hT len st (Or.inr h1)]
theorem whole_TS {cu : Nat → Nat} {r : hR} {s : hS} {w : hW} (hq : s.2.2 ≤ 4) (h : okW cu r s w) (hn : 0 < r.2.2) : TS (dW cu s w.1) (fnW cu s) r.2.2 r.2.2 0 0 = sumR (fun y => w.2.2.2.2.1 0 y * w.2.1 0 y) 0 s.2.2 := by
  rw [IP_chain hq h 0 0 0 hn (fun p _ => rfl)]
  unfold IP
  refine sumR_congr (fun st hst => ?_)
  show 0 + w.2.2.2.2.1 (0 + 1 - 1 - (0 + 0)) (0 + st) * prd w.1 (0 + st) (0 + 1 - 1 - (0 + 0)) (0 + 0 + 1) * TS _ _ r.2.2 (r.2.2 - 0 - 1) (0 + 0 + 1) (0 + st) = _
  have e := lon_TS hq h (r.2.2 - 0 - 1) 1 st (by omega) (by omega) (by omega) hst
  rw [Nat.zero_add, Nat.zero_add, show 0 + 1 - 1 - (0 + 0) = 0 by omega, Nat.mul_assoc]
  show _ * (_ * TS _ _ _ _ 1 _) = _
  rw [show r.2.2 - (r.2.2 - 0 - 1) - 1 = 0 by omega] at e
  rw [Nat.zero_add st, e, h.2.2.1 0 st hn hst]
theorem over_TS {cu : Nat → Nat} {r : hR} {s : hS} {w : hW} (hq : s.2.2 ≤ 4) (h : okW cu r s w) {k st : Nat} (hk : k < r.2.2) (hst : st < s.2.2) : TS (Dm (fun p x => decide (p = k → x / 2 = st)) (dW cu s w.1)) (fnW cu s) r.2.2 r.2.2 0 0 = sumR (fun y => w.2.2.2.2.1 y st * lonR cu s r.2.2 w.1 w.2.2.1 (k - y) y st) (k - 2) (k + 1 - (k - 2)) := by
  rw [IP_mask hq h (k := k) (G := fun len st1 => if st1 = st then TS (dW cu s w.1) (fnW cu s) r.2.2 (r.2.2 - k - 1) len st1 else 0) hk (fun p hp => ?_) (fun len st1 x h1 h2 => ?_)]
  · unfold IP
    rw [sumR_one (y := st) hst (fun i hi hne => sumR_0 (fun j hj => by show _ * (if i = st then _ else 0) = 0; rw [if_neg hne, Nat.mul_zero]))]
    conv => rhs; rw [← sumR_rev]
    rw [show min 3 (k + 1) = k + 1 - (k - 2) by omega]
    refine sumR_congr (fun i hi => ?_)
    simp only [Nat.zero_add]
    rw [if_pos True.intro, show k + 1 - 1 - i = k - i by omega, show k - 2 + (k + 1 - (k - 2)) - 1 - i = k - i by omega, show k - (k - i) = i by omega, Nat.mul_assoc]
    have e := lon_TS hq h (r.2.2 - k - 1) (i + 1) st (by omega) (by omega) (by omega) hst
    rw [show r.2.2 - (r.2.2 - k - 1) - (i + 1) = k - i by omega, show i + 1 - 1 = i by omega] at e
    rw [e]
  · funext len st1 x
    unfold Dm
    rw [if_pos (decide_eq_true (fun e => absurd e (by omega)))]
  · rw [TS_congr (D := Dm _ _) (D' := dW cu s w.1) (r.2.2 - k - 1) _ _ (by omega) (fun p h3 h4 => by funext a b c; unfold Dm; rw [if_pos (decide_eq_true (fun e => absurd e (by omega)))])]
    unfold Dm
    by_cases e : x / 2 = st
    · rw [if_pos (decide_eq_true (fun _ => e)), if_pos e]
    · rw [if_neg (fun q => e ((of_decide_eq_true (p := (k = k → x / 2 = st)) q) rfl)), if_neg e, Nat.zero_mul, Nat.mul_zero]
theorem begin_TS {cu : Nat → Nat} {r : hR} {s : hS} {w : hW} (hq : s.2.2 ≤ 4) (h : okW cu r s w) {k st : Nat} (hk : k < r.2.2) (hst : st < s.2.2) : TS (Dm (fun p x => decide (p = k → x = 2 * st)) (dW cu s w.1)) (fnW cu s) r.2.2 r.2.2 0 0 = w.2.2.2.2.1 k st * w.2.1 k st := by
  rw [IP_mask hq h (k := k) (G := fun len st1 => if len = 1 ∧ st1 = st then TS (dW cu s w.1) (fnW cu s) r.2.2 (r.2.2 - k - 1) len st1 else 0) hk (fun p hp => ?_) (fun len st1 x h1 h2 => ?_)]
  · unfold IP
    rw [sumR_one (y := st) hst (fun i hi hne => sumR_0 (fun j hj => by show _ * (if 0 + j + 1 = 1 ∧ i = st then _ else 0) = 0; rw [if_neg (fun q => hne q.2), Nat.mul_zero]))]
    rw [sumR_one (y := 0) (by omega) (fun i hi hne => by show _ * (if i + 1 = 1 ∧ st = st then _ else 0) = 0; rw [if_neg (fun q => by omega), Nat.mul_zero])]
    show _ * (if 0 + 1 = 1 ∧ st = st then _ else 0) = _
    rw [if_pos ⟨rfl, rfl⟩, show k + 1 - 1 - 0 = k by omega, show 0 + 1 = 1 from rfl, Nat.mul_assoc]
    have e := lon_TS hq h (r.2.2 - k - 1) 1 st (by omega) (by omega) (by omega) hst
    rw [show r.2.2 - (r.2.2 - k - 1) - 1 = k by omega] at e
    rw [e, h.2.2.1 k st hk hst]
  · funext len st1 x
    unfold Dm
    rw [if_pos (decide_eq_true (fun e => absurd e (by omega)))]
  · rw [TS_congr (D := Dm _ _) (D' := dW cu s w.1) (r.2.2 - k - 1) _ _ (by omega) (fun p h3 h4 => by funext a b c; unfold Dm; rw [if_pos (decide_eq_true (fun e => absurd e (by omega)))])]
    unfold Dm
    by_cases e : x = 2 * st
    · subst e
      rw [if_pos (decide_eq_true (fun _ => rfl)), if_pos ⟨dL_e _ _, by omega⟩]
    · rw [if_neg (fun q => e ((of_decide_eq_true (p := (k = k → x = 2 * st)) q) rfl)), Nat.zero_mul]
      by_cases e2 : dL len x = 1 ∧ x / 2 = st
      · have hod : x = 2 * st + 1 := by omega
        subst hod
        rw [dL_o] at e2
        rcases h1 with rfl | h1
        · rw [dW_o0, Nat.zero_mul]
        · exfalso; omega
      · rw [if_neg e2, Nat.mul_zero]
theorem moving_TS {cu : Nat → Nat} {r : hR} {s : hS} {w : hW} (hq : s.2.2 ≤ 4) (h : okW cu r s w) {k a b : Nat} (hk : k + 1 < r.2.2) (ha : a < s.2.2) (hb : b < s.2.2) : TS (Dm (fun p x => decide ((p = k → x / 2 = a) ∧ (p = k + 1 → x = 2 * b))) (dW cu s w.1)) (fnW cu s) r.2.2 r.2.2 0 0 = w.2.2.2.1 (k + 1) a * cu (s.2.1 a b) * w.2.1 (k + 1) b := by
  rw [IP_mask hq h (k := k) (G := fun len st1 => if st1 = a then cu (s.1 a (1 + len)) * cu (s.2.1 a b) * w.1 (k + 1) b * TS (dW cu s w.1) (fnW cu s) r.2.2 (r.2.2 - k - 2) 1 b else 0) (by omega) (fun p hp => ?_) (fun len st1 x h1 h2 => ?_)]
  · unfold IP
    rw [sumR_one (y := a) ha (fun i hi hne => sumR_0 (fun j hj => by show _ * (if i = a then _ else 0) = 0; rw [if_neg hne, Nat.mul_zero]))]
    have e := lon_TS hq h (r.2.2 - k - 2) 1 b (by omega) (by omega) (by omega) hb
    rw [show r.2.2 - (r.2.2 - k - 2) - 1 = k + 1 by omega, prd_1] at e
    rw [h.2.2.1 (k + 1) b hk hb, ← e, h.2.2.2.2.2 k a (by omega) ha]
    unfold endR
    rw [Nat.mul_assoc, Nat.mul_comm (sumR _ _ _), ← sumR_mul, sumR_sh0 _ 1]
    refine sumR_congr (fun i hi => ?_)
    simp only [Nat.zero_add]
    rw [if_pos True.intro, segR_prd _ _ _ _ _ _ (by omega), show k + 1 - 1 - i = k - i by omega, show k + 1 - (1 + i) = k - i by omega, show i + 1 = 1 + i by omega]
    ac_rfl
  · funext len st1 x
    unfold Dm
    rw [if_pos (decide_eq_true ⟨fun e => absurd e (by omega), fun e => absurd e (by omega)⟩)]
  · have hT : ∀ len st, TS (Dm (fun p x => decide ((p = k → x / 2 = a) ∧ (p = k + 1 → x = 2 * b))) (dW cu s w.1)) (fnW cu s) r.2.2 (r.2.2 - k - 1) len st = cu (s.1 st (1 + len)) * cu (s.2.1 st b) * w.1 (k + 1) b * TS (dW cu s w.1) (fnW cu s) r.2.2 (r.2.2 - k - 2) 1 b := by
      intro len st
      rw [show r.2.2 - k - 1 = r.2.2 - k - 2 + 1 by omega, TS_rec, show r.2.2 - (r.2.2 - k - 2 + 1) = k + 1 by omega, sumR_one (y := 2 * b) (by omega) (fun i hi hne => ?_)]
      · rw [TS_congr (D := Dm _ _) (D' := dW cu s w.1) (r.2.2 - k - 2) _ _ (by omega) (fun p h3 h4 => by funext a b c; unfold Dm; rw [if_pos (decide_eq_true ⟨fun e => absurd e (by omega), fun e => absurd e (by omega)⟩)])]
        unfold Dm
        rw [if_pos (decide_eq_true ⟨fun e => absurd e (by omega), fun _ => rfl⟩), dW_e (by omega), if_pos hb, dL_e, show 2 * b / 2 = b by omega]
      · unfold Dm
        rw [if_neg (fun q => hne ((of_decide_eq_true (p := ((k + 1 = k → i / 2 = a) ∧ (k + 1 = k + 1 → i = 2 * b))) q).2 rfl)), Nat.zero_mul]
    rw [hT]
    unfold Dm
    by_cases e : x / 2 = a
    · rw [if_pos (decide_eq_true ⟨fun _ => e, fun e => absurd e (by omega)⟩), if_pos e, e]
    · rw [if_neg (fun q => e ((of_decide_eq_true (p := ((k = k → x / 2 = a) ∧ (k = k + 1 → x = 2 * b))) q).1 rfl)), if_neg e, Nat.zero_mul, Nat.mul_zero]
