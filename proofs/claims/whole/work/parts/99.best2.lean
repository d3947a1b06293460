def ew (s : hS) (f : hG) (n p st c : Nat) : Nat := if c / 8 ^ (n - p - 1) = 2 * st then f p st * twW s f n (n - p - 1) 1 st (c % 8 ^ (n - p - 1)) else 0
def SE (s : hS) (f : hG) (n p st : Nat) (z : Nat × Nat) : Prop := z.2 < 8 ^ (n - p) ∧ 0 < ew s f n p st z.2 ∧ z.1 = ew s f n p st z.2
theorem dm {a b m : Nat} (h : b < 8 ^ m) : (a * 8 ^ m + b) / 8 ^ m = a ∧ (a * 8 ^ m + b) % 8 ^ m = b := by
  have hp : 0 < 8 ^ m := Nat.pow_pos (by omega)
  constructor
  · rw [Nat.mul_comm, Nat.mul_add_div hp, Nat.div_eq_of_lt h, Nat.add_zero]
  · rw [Nat.mul_comm, Nat.mul_add_mod, Nat.mod_eq_of_lt h]
theorem pk8 (a x m c : Nat) : a * 8 ^ (m + 1) + (x * 8 ^ m + c) = (a * 8 + x) * 8 ^ m + c := by
  rw [Nat.pow_succ, Nat.add_mul, Nat.mul_assoc a 8, Nat.mul_comm 8, Nat.add_assoc]
theorem ew_1 {s : hS} {f : hG} {n p st c : Nat} (h : c < 8 ^ (n - p - 1)) : ew s f n p st (2 * st * 8 ^ (n - p - 1) + c) = f p st * twW s f n (n - p - 1) 1 st c := by
  unfold ew
  rw [(dm h).1, (dm h).2, if_pos rfl]
theorem ew_stage {s : hS} {f : hG} {n p st : Nat} (hst : st < 4) : ∀ e c, e < 3 → p + e + 1 ≤ n → c < 8 ^ (n - p - e - 1) → ew s f n p st (tolR st e * 8 ^ (n - p - e - 1) + c) = prd f st p (e + 1) * twW s f n (n - p - e - 1) (e + 1) st c
  | 0, c, _, hn, hc => by
    rw [Nat.sub_zero] at hc ⊢
    rw [show 0 + 1 = 1 from rfl, prd_1]
    exact ew_1 hc
  | e + 1, c, he, hn, hc => by
    have hm : n - p - e - 1 = n - p - (e + 1) - 1 + 1 := by omega
    have hlt : (2 * st + 1) * 8 ^ (n - p - (e + 1) - 1) + c < 8 ^ (n - p - e - 1) := by
      rw [hm, Nat.pow_succ]
      have := Nat.mul_le_mul_right (8 ^ (n - p - (e + 1) - 1)) (show 2 * st + 1 ≤ 7 by omega)
      omega
    have ih := ew_stage (s := s) (f := f) (n := n) (p := p) hst e _ (by omega) (by omega) hlt
    have e1 : tolR st (e + 1) * 8 ^ (n - p - (e + 1) - 1) + c = tolR st e * 8 ^ (n - p - e - 1) + ((2 * st + 1) * 8 ^ (n - p - (e + 1) - 1) + c) := by
      show (tolR st e * 8 + (2 * st + 1)) * _ + c = _
      rw [hm, Nat.pow_succ, Nat.add_mul, Nat.mul_assoc, Nat.mul_comm 8, Nat.add_assoc]
    rw [e1, ih]
    show _ * tw _ _ n (n - p - e - 1) (e + 1) st _ = _
    rw [show tw (dW id s f) (fnW id s) n (n - p - e - 1) (e + 1) st ((2 * st + 1) * 8 ^ (n - p - (e + 1) - 1) + c) = tw (dW id s f) (fnW id s) n (n - p - (e + 1) - 1 + 1) (e + 1) st ((2 * st + 1) * 8 ^ (n - p - (e + 1) - 1) + c) by rw [hm]]
    rw [tw_s hc, dW_o (by omega), if_pos ⟨rfl, by omega⟩, dL_o, show (2 * st + 1) / 2 = st by omega, prd_s f st p (e + 1), show n - (n - p - (e + 1) - 1 + 1) = p + (e + 1) by omega, Nat.mul_assoc]
def At (n p st e c : Nat) : Prop := p + e + 1 ≤ n ∧ ∃ c2, c2 < 8 ^ (n - p - e - 1) ∧ c = tolR st e * 8 ^ (n - p - e - 1) + c2 ∧ (p + e + 1 = n ∨ ∃ y c3, c3 < 8 ^ (n - p - e - 2) ∧ c2 = 2 * y * 8 ^ (n - p - e - 2) + c3)
theorem ew_last {s : hS} {f : hG} {n p st e : Nat} (hst : st < 4) (he : e < 3) (hn : p + e + 1 = n) : ew s f n p st (tolR st e) = segR id s f p (e + 1) st * s.1 st 1 := by
  have h := ew_stage (s := s) (f := f) (n := n) (p := p) hst e 0 he (by omega) (Nat.pow_pos (by omega))
  rw [show n - p - e - 1 = 0 by omega, Nat.pow_zero, Nat.mul_one, Nat.add_zero] at h
  rw [h, segR_prd _ _ _ _ _ _ (by omega)]
  show prd f st p (e + 1) * (s.1 st (1 + (e + 1)) * s.1 st 1) = s.1 st (1 + (e + 1)) * prd f st p (e + 1) * s.1 st 1
  ac_rfl
theorem ew_move {s : hS} {f : hG} {n p st e y c3 : Nat} (hst : st < 4) (he : e < 3) (hn : p + e + 1 < n) (hc : c3 < 8 ^ (n - p - e - 2)) (hy : 2 * y < 8) : ew s f n p st (tolR st e * 8 ^ (n - p - e - 1) + (2 * y * 8 ^ (n - p - e - 2) + c3)) = if y < s.2.2 then segR id s f p (e + 1) st * s.2.1 st y * ew s f n (p + e + 1) y (2 * y * 8 ^ (n - p - e - 2) + c3) else 0 := by
  have hm : n - p - e - 1 = n - p - e - 2 + 1 := by omega
  have hlt : 2 * y * 8 ^ (n - p - e - 2) + c3 < 8 ^ (n - p - e - 1) := by
    rw [hm, Nat.pow_succ]
    have := Nat.mul_le_mul_right (8 ^ (n - p - e - 2)) (show 2 * y ≤ 7 by omega)
    omega
  rw [ew_stage hst e _ he (by omega) hlt]
  have e2 : ew s f n (p + e + 1) y (2 * y * 8 ^ (n - p - e - 2) + c3) = f (p + e + 1) y * twW s f n (n - p - e - 2) 1 y c3 := by
    have e3 := ew_1 (s := s) (f := f) (n := n) (p := p + e + 1) (st := y) (c := c3) (by rw [show n - (p + e + 1) - 1 = n - p - e - 2 by omega]; exact hc)
    rw [show n - (p + e + 1) - 1 = n - p - e - 2 by omega] at e3
    exact e3
  rw [e2]
  show _ * tw _ _ n (n - p - e - 1) (e + 1) st _ = _
  rw [show tw (dW id s f) (fnW id s) n (n - p - e - 1) (e + 1) st (2 * y * 8 ^ (n - p - e - 2) + c3) = tw (dW id s f) (fnW id s) n (n - p - e - 2 + 1) (e + 1) st (2 * y * 8 ^ (n - p - e - 2) + c3) by rw [hm]]
  rw [tw_s hc, dW_e (by omega), dL_e, show 2 * y / 2 = y by omega, show n - (n - p - e - 2 + 1) = p + e + 1 by omega, segR_prd _ _ _ _ _ _ (by omega)]
  by_cases h : y < s.2.2
  · rw [if_pos h, if_pos h]
    show prd f st p (e + 1) * (s.1 st (1 + (e + 1)) * s.2.1 st y * f (p + e + 1) y * _) = s.1 st (1 + (e + 1)) * prd f st p (e + 1) * s.2.1 st y * (f (p + e + 1) y * _)
    ac_rfl
  · rw [if_neg h, if_neg h, Nat.zero_mul, Nat.mul_zero]
theorem tolR_div {st : Nat} (h : st < 4) (a : Nat) : ∀ k, tolR st (a + k) / 8 ^ k = tolR st a
  | 0 => Nat.div_one _
  | k + 1 => by
    show (tolR st (a + k) * 8 + (2 * st + 1)) / 8 ^ (k + 1) = _
    rw [Nat.pow_succ, Nat.mul_comm (8 ^ k), ← Nat.div_div_eq_div_mul, show (tolR st (a + k) * 8 + (2 * st + 1)) / 8 = tolR st (a + k) by omega, tolR_div h a k]
theorem At_one {n p st e e1 c : Nat} (hst : st < 4) (h : At n p st e c) (h1 : At n p st e1 c) (hlt : e < e1) : False := by
  obtain ⟨hn, c2, hc2, ec, hor⟩ := h
  obtain ⟨hn1, d2, hd2, ed, -⟩ := h1
  rcases hor with q | ⟨y, c3, hc3, e2⟩
  · omega
  · have hm : n - p - e - 1 = n - p - e - 2 + 1 := by omega
    have a1 : c / 8 ^ (n - p - e - 2) = tolR st e * 8 + 2 * y := by
      have : c = (tolR st e * 8 + 2 * y) * 8 ^ (n - p - e - 2) + c3 := by
        rw [ec, e2, hm, pk8]
      rw [this]
      exact (dm hc3).1
    have a2 : c / 8 ^ (n - p - e - 2) = tolR st (e + 1) := by
      have e8 : 8 ^ (n - p - e - 2) = 8 ^ (n - p - e1 - 1) * 8 ^ (e1 - e - 1) := by
        rw [← Nat.pow_add, show n - p - e1 - 1 + (e1 - e - 1) = n - p - e - 2 by omega]
      rw [e8, ← Nat.div_div_eq_div_mul, ed, (dm hd2).1]
      have := tolR_div hst (e + 1) (e1 - e - 1)
      rw [show e + 1 + (e1 - e - 1) = e1 by omega] at this
      exact this
    rw [a1] at a2
    have a2 : tolR st e * 8 + 2 * y = tolR st e * 8 + (2 * st + 1) := a2
    omega
theorem At_all {s : hS} {f : hG} {n p st c : Nat} (hst : st < 4) (hp : p < n) (h : 0 < ew s f n p st c) : ∃ e, e < min 3 (n - p) ∧ At n p st e c := by
  have hgo : ∀ k e c2, e + k = 2 → p + e + 1 ≤ n → c2 < 8 ^ (n - p - e - 1) → c = tolR st e * 8 ^ (n - p - e - 1) + c2 → ∃ e, e < min 3 (n - p) ∧ At n p st e c := by
    intro k
    induction k with
    | zero =>
      intro e c2 he hn hc2 ec
      by_cases hl : p + e + 1 = n
      · exact ⟨e, by omega, hn, c2, hc2, ec, Or.inl hl⟩
      · have hm : n - p - e - 1 = n - p - e - 2 + 1 := by omega
        have hc2' := hc2
        rw [hm] at hc2'
        obtain ⟨x, c3, hx, hc3, e2, -⟩ := tw_cut (D := dW id s f) (fin := fnW id s) (n := n) (len := 0) (st := 0) hc2'
        by_cases hev : x % 2 = 0
        · exact ⟨e, by omega, hn, c2, hc2, ec, Or.inr ⟨x / 2, c3, hc3, by rw [e2, show 2 * (x / 2) = x by omega]⟩⟩
        · exfalso
          rw [ec, ew_stage hst e c2 (by omega) hn hc2] at h
          have h2 : 0 < tw (dW id s f) (fnW id s) n (n - p - e - 2 + 1) (e + 1) st c2 := by
            rw [← hm]
            exact Nat.pos_of_mul_pos_left h
          rw [e2, tw_s hc3] at h2
          obtain ⟨y, rfl⟩ : ∃ y, x = 2 * y + 1 := ⟨x / 2, by omega⟩
          rw [dW_o (by omega), if_neg (by omega), Nat.zero_mul] at h2
          exact absurd h2 (Nat.lt_irrefl _)
    | succ k ih =>
      intro e c2 he hn hc2 ec
      by_cases hl : p + e + 1 = n
      · exact ⟨e, by omega, hn, c2, hc2, ec, Or.inl hl⟩
      · have hm : n - p - e - 1 = n - p - e - 2 + 1 := by omega
        have hc2' := hc2
        rw [hm] at hc2'
        obtain ⟨x, c3, hx, hc3, e2, -⟩ := tw_cut (D := dW id s f) (fin := fnW id s) (n := n) (len := 0) (st := 0) hc2'
        by_cases hev : x % 2 = 0
        · exact ⟨e, by omega, hn, c2, hc2, ec, Or.inr ⟨x / 2, c3, hc3, by rw [e2, show 2 * (x / 2) = x by omega]⟩⟩
        · have h' := h
          rw [ec, ew_stage hst e c2 (by omega) hn hc2] at h'
          have h2 : 0 < tw (dW id s f) (fnW id s) n (n - p - e - 2 + 1) (e + 1) st c2 := by
            rw [← hm]
            exact Nat.pos_of_mul_pos_left h'
          rw [e2, tw_s hc3] at h2
          obtain ⟨y, rfl⟩ : ∃ y, x = 2 * y + 1 := ⟨x / 2, by omega⟩
          rw [dW_o (by omega)] at h2
          by_cases hy : y = st ∧ e + 1 < 3
          · refine ih (e + 1) c3 (by omega) (by omega) (by rw [show n - p - (e + 1) - 1 = n - p - e - 2 by omega]; exact hc3) ?_
            rw [ec, e2, hy.1, hm, show n - p - (e + 1) - 1 = n - p - e - 2 by omega]
            exact pk8 _ _ _ _
          · rw [if_neg hy, Nat.zero_mul] at h2
            exact absurd h2 (Nat.lt_irrefl _)
  unfold ew at h
  by_cases h1 : c / 8 ^ (n - p - 1) = 2 * st
  · refine hgo 2 0 (c % 8 ^ (n - p - 1)) rfl (by omega) (Nat.mod_lt _ (Nat.pow_pos (by omega))) ?_
    show c = 2 * st * 8 ^ (n - p - 1) + _
    rw [← h1, Nat.mul_comm]
    exact (Nat.div_add_mod c _).symm
  · rw [if_neg h1] at h
    omega
theorem tw_le {s : hS} {f : hG} {n : Nat} (hs : okS s) (hf : ∀ p st, f p st ≤ 16) : ∀ m len st c, twW s f n m len st c ≤ 16 * 256 ^ m
  | 0, len, st, c => by
    have := Nat.mul_le_mul (hs.2.1 st (1 + len)) (hs.2.1 st 1)
    exact this
  | m + 1, len, st, c => by
    have hD : ∀ p len st x, dW id s f p len st x ≤ 256 := by
      intro p len st x
      unfold dW
      split
      · split
        · have := Nat.mul_le_mul (hs.2.1 (x / 2) 0) (hf 0 (x / 2))
          exact Nat.le_trans this (by omega)
        · omega
      · split
        · split
          · exact Nat.mul_le_mul (Nat.mul_le_mul (hs.2.1 _ _) (hs.2.2 _ _)) (hf _ _)
          · omega
        · split
          · exact Nat.le_trans (hf _ _) (by omega)
          · omega
    have ih := tw_le hs hf m (dL len (c / 8 ^ m)) (c / 8 ^ m / 2) (c % 8 ^ m) (n := n)
    have h2 := Nat.mul_le_mul (hD (n - (m + 1)) len st (c / 8 ^ m)) ih
    show dW id s f (n - (m + 1)) len st (c / 8 ^ m) * twW s f n m (dL len (c / 8 ^ m)) (c / 8 ^ m / 2) (c % 8 ^ m) ≤ _
    rw [Nat.pow_succ]
    omega
theorem ew_le {s : hS} {f : hG} {n p st c : Nat} (hs : okS s) (hf : ∀ p st, f p st ≤ 16) : ew s f n p st c ≤ 256 * 256 ^ (n - p - 1) := by
  unfold ew
  split
  · have := Nat.mul_le_mul (hf p st) (tw_le (n := n) hs hf (n - p - 1) 1 st (c % 8 ^ (n - p - 1)))
    omega
  · exact Nat.zero_le _
theorem prd_le {f : hG} (hf : ∀ p st, f p st ≤ 16) (st b : Nat) : ∀ len, prd f st b len ≤ 16 ^ len
  | 0 => Nat.le_refl _
  | len + 1 => by
    rw [prd_s, Nat.pow_succ]
    exact Nat.mul_le_mul (prd_le hf st b len) (hf _ _)
theorem seg_le {s : hS} {f : hG} {p e st : Nat} (hs : okS s) (hf : ∀ p st, f p st ≤ 16) (he : e < 3) : segR id s f p (e + 1) st ≤ 16384 := by
  rw [segR_prd _ _ _ _ _ _ (by omega)]
  have h1 := prd_le hf st p (e + 1)
  have h2 : 16 ^ (e + 1) ≤ 16 ^ 3 := Nat.pow_le_pow_right (by omega) (by omega)
  have h3 := Nat.mul_le_mul (hs.2.1 st (1 + (e + 1))) (Nat.le_trans h1 h2)
  exact h3
theorem SE_b {s : hS} {f : hG} {n p st : Nat} {z : Nat × Nat} (hs : okS s) (hf : ∀ p st, f p st ≤ 16) (hn : n ≤ 6) (h : SE s f n p st z) : z.1 < 2 ^ 63 ∧ z.2 < 2 ^ 31 := by
  have h1 := ew_le (n := n) (p := p) (st := st) (c := z.2) hs hf
  have h2 : 256 ^ (n - p - 1) ≤ 256 ^ 5 := Nat.pow_le_pow_right (by omega) (by omega)
  have h3 : 8 ^ (n - p) ≤ 8 ^ 6 := Nat.pow_le_pow_right (by omega) (by omega)
  have h4 := h.1
  have h5 := h.2.2
  have e1 : 256 * 256 ^ 5 < 2 ^ 63 := by decide
  have e2 : 8 ^ 6 < 2 ^ 31 := by decide
  constructor <;> omega
theorem SE_inj {s : hS} {f : hG} {n p st : Nat} {w v : Nat × Nat} (h1 : SE s f n p st w) (h2 : SE s f n p st v) (e : w.2 = v.2) : w = v := by
  refine Prod.ext ?_ e
  rw [h1.2.2, h2.2.2, e]
theorem or_add {a b m : Nat} (h : b < 8 ^ m) : a * 8 ^ m ||| b = a * 8 ^ m + b := by
  have e : (8:Nat) ^ m = 2 ^ (3 * m) := by rw [Nat.pow_mul]
  rw [e] at h ⊢
  rw [Nat.mul_comm, Nat.two_pow_add_eq_or_of_lt h]
def SM (s : hS) (f : hG) (n p st e : Nat) (z : Nat × Nat) : Prop := SE s f n p st z ∧ ∃ e1, e1 < e ∧ At n p st e1 z.2
theorem mulR_congr {f g : Nat → Nat} {x b : Nat} : ∀ {m : Nat}, (∀ i, i < m → f (b + i) = g (b + i)) → mulR f x b m = mulR g x b m
  | 0, _ => rfl
  | m + 1, h => by
    show mulR f x b m * f (b + m) = mulR g x b m * g (b + m)
    rw [mulR_congr (fun i hi => h i (by omega)), h m (by omega)]
theorem segR_sho {r : hR} {s : hS} {w : hW} (hw : okW id r s w) {p e st : Nat} (hp : p + e + 1 ≤ r.2.2) (hst : st < s.2.2) : segR id s w.1 p (e + 1) st = segR id s (shoR id s r) p (e + 1) st := by
  unfold segR
  refine mulR_congr (fun i hi => ?_)
  exact hw.1 (p + i) st (by omega) hst
theorem SM_b {s : hS} {f : hG} {n p st e : Nat} {z : Nat × Nat} (hs : okS s) (hf : ∀ p st, f p st ≤ 16) (hn : n ≤ 6) (h : SM s f n p st e z) : z.1 < 2 ^ 63 ∧ z.2 < 2 ^ 31 := SE_b hs hf hn h.1
theorem stage_last {s : hS} {f : hG} {n p st e : Nat} {L : hL} (hs : okS s) (hf : ∀ p st, f p st ≤ 16) (hn : n ≤ 6) (hst : st < 4) (he : e < 3) (hpn : p + (e + 1) = n) (hL : isTop (lst L) (SM s f n p st e)) :
    ((segR id s f p (e + 1) st) * s.1 st 1) < 2 ^ 63 ∧ (∀ j, j < L.2.2 → L.1 j < 2 ^ 63) ∧ (∀ j, j < L.2.2 → L.2.1 j < 2 ^ 31) ∧ L.2.2 ≤ 10 ∧ ((((segR id s f p (e + 1) st) * s.1 st 1) = 0 ∨ ∃ p0, isPos L ((segR id s f p (e + 1) st) * s.1 st 1) (tolR st e) p0 ∧ 10 ≤ p0) → isTop (lst L) (SM s f n p st (e + 1))) ∧ ∀ p0 L1, isPos L ((segR id s f p (e + 1) st) * s.1 st 1) (tolR st e) p0 → p0 < 10 → okOff L L1 ((segR id s f p (e + 1) st) * s.1 st 1) (tolR st e) p0 → isTop (lst L1) (SM s f n p st (e + 1)) := by
  have hew := ew_last (s := s) (f := f) (n := n) (p := p) hst he (by omega)
  have hAt : At n p st e (tolR st e) := ⟨by omega, 0, Nat.pow_pos (by omega), by rw [show n - p - e - 1 = 0 by omega, Nat.pow_zero, Nat.mul_one, Nat.add_zero], Or.inl (by omega)⟩
  have hlt : tolR st e < 8 ^ (n - p) := by
    have := tolR_lt hst e
    rw [show n - p = e + 1 by omega]
    exact this
  have hAe : ∀ c, At n p st e c → c = tolR st e := by
    rintro c ⟨-, c2, h2, ec, -⟩
    rw [show n - p - e - 1 = 0 by omega, Nat.pow_zero] at h2 ec
    omega
  have hset : ∀ z, SM s f n p st (e + 1) z ↔ (SM s f n p st e z ∨ (0 < segR id s f p (e + 1) st * s.1 st 1 ∧ z = (segR id s f p (e + 1) st * s.1 st 1, tolR st e))) := by
    intro z
    constructor
    · rintro ⟨h1, e1, h2, h3⟩
      rcases Nat.lt_or_ge e1 e with q | q
      · exact Or.inl ⟨h1, e1, q, h3⟩
      · obtain rfl : e1 = e := by omega
        have e4 := hAe z.2 h3
        have h5 := h1.2.1
        have h6 := h1.2.2
        rw [e4, hew] at h5 h6
        exact Or.inr ⟨h5, Prod.ext h6 e4⟩
    · rintro (⟨h1, e1, h2, h3⟩ | ⟨h1, rfl⟩)
      · exact ⟨h1, e1, by omega, h3⟩
      · exact ⟨⟨hlt, by rw [hew]; exact h1, hew.symm⟩, e, by omega, hAt⟩
  have hnew : ∀ z, z ∈ lst L → z.2 ≠ tolR st e := by
    intro z hz hq
    obtain ⟨-, e1, h2, h3⟩ := hL.2.2.1 z hz
    rw [hq] at h3
    exact At_one hst h3 hAt h2
  have hb : ((segR id s f p (e + 1) st) * s.1 st 1) < 2 ^ 63 := by
    have h1 := Nat.mul_le_mul (seg_le (p := p) (st := st) hs hf he) (hs.2.1 st 1)
    have h2 : 16384 * 4 < 2 ^ 63 := by decide
    omega
  refine ⟨hb, fun j hj => (SM_b hs hf hn (hL.2.2.1 _ (lst_mem.mpr ⟨j, hj, rfl⟩))).1, fun j hj => (SM_b hs hf hn (hL.2.2.1 _ (lst_mem.mpr ⟨j, hj, rfl⟩))).2, by rw [← lst_len]; exact hL.1, fun hrj => ?_, fun p0 L1 hp hp10 ho => ?_⟩
  · refine isTop_congr (S := fun z => SM s f n p st e z ∨ (0 < segR id s f p (e + 1) st * s.1 st 1 ∧ z = (segR id s f p (e + 1) st * s.1 st 1, tolR st e))) ?_ (fun z => (hset z).symm)
    rcases hrj with q | ⟨p0, hp, hp10⟩
    · exact isTop_congr hL (fun z => ⟨Or.inl, fun g => g.elim id (fun u => absurd u.1 (by omega))⟩)
    · obtain ⟨r1, r2⟩ := off_ref hL hnew hp hp10
      refine ⟨hL.1, hL.2.1, fun z hz => Or.inl (hL.2.2.1 z hz), fun z hz => ?_⟩
      rcases hz with u | ⟨-, rfl⟩
      · exact hL.2.2.2 z u
      · exact Or.inr ⟨r1, r2⟩
  · refine isTop_congr (off_top hL hnew hp ho) (fun z => ?_)
    rw [hset z]
    exact ⟨fun q => q.imp id (fun g => ⟨hp.2.2.2, g⟩), fun q => q.imp id (fun g => g.2)⟩
def SJ (s : hS) (f : hG) (n p st e y : Nat) (z : Nat × Nat) : Prop := SM s f n p st e z ∨ ∃ y1, y1 < y ∧ ∃ w, SE s f n (p + (e + 1)) y1 w ∧ 0 < segR id s f p (e + 1) st * s.2.1 st y1 ∧ z = (segR id s f p (e + 1) st * s.2.1 st y1 * w.1, tolR st e * 8 ^ (n - (p + (e + 1))) + w.2)
theorem SE_dig {s : hS} {f : hG} {n p y : Nat} {w : Nat × Nat} (h : SE s f n p y w) : w.2 / 8 ^ (n - p - 1) = 2 * y := by
  have h2 := h.2.1
  unfold ew at h2
  by_cases q : w.2 / 8 ^ (n - p - 1) = 2 * y
  · exact q
  · rw [if_neg q] at h2
    omega
theorem SE_At {s : hS} {f : hG} {n p st e y : Nat} {w : Nat × Nat} (hpn : p + (e + 1) < n) (h : SE s f n (p + (e + 1)) y w) : At n p st e (tolR st e * 8 ^ (n - (p + (e + 1))) + w.2) ∧ w.2 = 2 * y * 8 ^ (n - p - e - 2) + w.2 % 8 ^ (n - p - e - 2) := by
  have hd := SE_dig h
  rw [show n - (p + (e + 1)) - 1 = n - p - e - 2 by omega] at hd
  have e2 : w.2 = 2 * y * 8 ^ (n - p - e - 2) + w.2 % 8 ^ (n - p - e - 2) := by
    rw [← hd, Nat.mul_comm]
    exact (Nat.div_add_mod _ _).symm
  refine ⟨⟨by omega, w.2, ?_, ?_, Or.inr ⟨y, _, Nat.mod_lt _ (Nat.pow_pos (by omega)), e2⟩⟩, e2⟩
  · rw [show n - p - e - 1 = n - (p + (e + 1)) by omega]
    exact h.1
  · rw [show n - p - e - 1 = n - (p + (e + 1)) by omega]
theorem stage_move {s : hS} {f : hG} {n p st e y : Nat} {L Lf : hL} (hs : okS s) (hf : ∀ p st, f p st ≤ 16) (hn : n ≤ 6) (hst : st < 4) (he : e < 3) (hpn : p + (e + 1) < n) (hTL : isTop (lst L) (SJ s f n p st e y)) (hLf : isTop (lst Lf) (SE s f n (p + (e + 1)) y)) :
    ∃ I : Nat → hL → Prop, I 0 L ∧ Lf.2.2 ≤ 10 ∧ okStep Lf (segR id s f p (e + 1) st * s.2.1 st y) (tolR st e * 2 ^ (3 * (n - (p + (e + 1))))) I ∧ ∀ L1, I Lf.2.2 L1 → isTop (lst L1) (SJ s f n p st e (y + 1)) := by
  have e8 : (2:Nat) ^ (3 * (n - (p + (e + 1)))) = 8 ^ (n - (p + (e + 1))) := by rw [Nat.pow_mul]
  rw [e8]
  have hfa : ∀ y, segR id s f p (e + 1) st * s.2.1 st y ≤ 65536 := fun y => Nat.mul_le_mul (seg_le (p := p) (st := st) hs hf he) (hs.2.2 st y)
  have hnum : ∀ y w, SE s f n (p + (e + 1)) y w → segR id s f p (e + 1) st * s.2.1 st y * w.1 < 2 ^ 63 ∧ tolR st e * 8 ^ (n - (p + (e + 1))) + w.2 < 2 ^ 31 := by
    intro y w hw
    have h1 := ew_le (n := n) (p := p + (e + 1)) (st := y) (c := w.2) hs hf
    have h2 : 256 ^ (n - (p + (e + 1)) - 1) ≤ 256 ^ 4 := Nat.pow_le_pow_right (by omega) (by omega)
    have h3 := Nat.mul_le_mul (hfa y) (Nat.le_trans h1 (Nat.mul_le_mul_left 256 h2))
    rw [← hw.2.2] at h3
    have h4 : 65536 * (256 * 256 ^ 4) < 2 ^ 63 := by decide
    refine ⟨by omega, ?_⟩
    have h5 := Nat.mul_le_mul_right (8 ^ (n - (p + (e + 1)))) (show tolR st e + 1 ≤ 8 ^ (e + 1) from tolR_lt hst e)
    rw [← Nat.pow_add, Nat.add_mul, Nat.one_mul] at h5
    have h6 : 8 ^ (e + 1 + (n - (p + (e + 1)))) ≤ 8 ^ 6 := Nat.pow_le_pow_right (by omega) (by omega)
    have h7 : 8 ^ 6 < 2 ^ 31 := by decide
    have h8 := hw.1
    omega
  have hnw : ∀ z w, SJ s f n p st e y z → SE s f n (p + (e + 1)) y w → z.2 ≠ tolR st e * 8 ^ (n - (p + (e + 1))) + w.2 := by
    intro z w hz hw
    rcases hz with ⟨-, e1, h2, h3⟩ | ⟨y1, h1, v, h2, -, rfl⟩
    · intro q
      rw [q] at h3
      exact At_one hst h3 (SE_At hpn hw).1 h2
    · intro q
      have q : tolR st e * 8 ^ (n - (p + (e + 1))) + v.2 = tolR st e * 8 ^ (n - (p + (e + 1))) + w.2 := q
      have h4 := SE_dig h2
      have h5 := SE_dig hw
      rw [show v.2 = w.2 by omega, h5] at h4
      omega
  have hbb : ∀ z, SJ s f n p st e y z → z.1 < 2 ^ 63 ∧ z.2 < 2 ^ 31 := by
    intro z hz
    rcases hz with q | ⟨y1, h1, v, h2, -, rfl⟩
    · exact SM_b hs hf hn q
    · exact hnum y1 v h2
  obtain ⟨I, i0, i1, i2, i3⟩ := step_top (fa := segR id s f p (e + 1) st * s.2.1 st y) (ah := tolR st e * 8 ^ (n - (p + (e + 1)))) hLf hTL hnw (fun w hw => or_add hw.1) (fun w hw => hnum y w hw) hbb (fun w v h1 h2 h3 => SE_inj h1 h2 h3) (fun w hw => by rw [hw.2.2]; exact hw.2.1)
  · refine ⟨I, i0, i1, i2, fun L1 h1 => isTop_congr (i3 L1 h1) (fun z => ?_)⟩
    constructor
    · rintro (q | ⟨w, h1, h2, h3⟩)
      · rcases q with q | ⟨y1, h1, h2⟩
        · exact Or.inl q
        · exact Or.inr ⟨y1, by omega, h2⟩
      · exact Or.inr ⟨y, Nat.lt_succ_self y, w, h1, h2, h3⟩
    · rintro (q | ⟨y1, h1, w, h2, h3, h4⟩)
      · exact Or.inl (Or.inl q)
      · rcases Nat.lt_or_ge y1 y with u | u
        · exact Or.inl (Or.inr ⟨y1, u, w, h2, h3, h4⟩)
        · obtain rfl : y1 = y := by omega
          exact Or.inr ⟨w, h2, h3, h4⟩
theorem stage_end {s : hS} {f : hG} {n p st e : Nat} (hs : okS s) (hst : st < 4) (he : e < 3) (hpn : p + (e + 1) < n) (z : Nat × Nat) : SJ s f n p st e s.2.2 z ↔ SM s f n p st (e + 1) z := by
  constructor
  · rintro (⟨h1, e1, h2, h3⟩ | ⟨y, hy, w, hw, h0, rfl⟩)
    · exact ⟨h1, e1, by omega, h3⟩
    · obtain ⟨a1, a2⟩ := SE_At (st := st) hpn hw
      have hq := hs.1
      have hm := ew_move (s := s) (f := f) (n := n) (p := p) (c3 := w.2 % 8 ^ (n - p - e - 2)) (y := y) hst he (by omega) (Nat.mod_lt _ (Nat.pow_pos (by omega))) (by omega)
      rw [← a2, if_pos hy, show n - p - e - 1 = n - (p + (e + 1)) by omega, show p + e + 1 = p + (e + 1) by omega, ← hw.2.2] at hm
      refine ⟨⟨?_, ?_, hm.symm⟩, e, by omega, a1⟩
      · show tolR st e * 8 ^ (n - (p + (e + 1))) + w.2 < 8 ^ (n - p)
        have h5 := Nat.mul_le_mul_right (8 ^ (n - (p + (e + 1)))) (show tolR st e + 1 ≤ 8 ^ (e + 1) from tolR_lt hst e)
        rw [← Nat.pow_add, Nat.add_mul, Nat.one_mul, show e + 1 + (n - (p + (e + 1))) = n - p by omega] at h5
        have := hw.1
        omega
      · show 0 < ew s f n p st (tolR st e * 8 ^ (n - (p + (e + 1))) + w.2)
        rw [hm]
        exact Nat.mul_pos h0 (by rw [hw.2.2]; exact hw.2.1)
  · rintro ⟨h1, e1, h2, h3⟩
    rcases Nat.lt_or_ge e1 e with u | u
    · exact Or.inl ⟨h1, e1, u, h3⟩
    · obtain rfl : e1 = e := by omega
      obtain ⟨-, c2, hc2, ec, hor⟩ := h3
      rcases hor with q | ⟨y, c3, hc3, e2⟩
      · omega
      · have hy8 : 2 * y < 8 := by
          rcases Nat.lt_or_ge (2 * y) 8 with q | q
          · exact q
          · exfalso
            have := Nat.mul_le_mul_right (8 ^ (n - p - e1 - 2)) q
            rw [show n - p - e1 - 1 = n - p - e1 - 2 + 1 by omega, Nat.pow_succ] at hc2
            omega
        have hm := ew_move (s := s) (f := f) (n := n) (p := p) (y := y) hst he (by omega) hc3 hy8
        rw [← e2, ← ec] at hm
        have h5 := h1.2.1
        have h6 := h1.2.2
        by_cases hy : y < s.2.2
        · rw [if_pos hy, show p + e1 + 1 = p + (e1 + 1) by omega] at hm
          rw [hm] at h5 h6
          refine Or.inr ⟨y, hy, (ew s f n (p + (e1 + 1)) y c2, c2), ⟨?_, Nat.pos_of_mul_pos_left h5, rfl⟩, Nat.pos_of_mul_pos_right h5, Prod.ext h6 ?_⟩
          · show c2 < 8 ^ (n - (p + (e1 + 1)))
            rw [show n - (p + (e1 + 1)) = n - p - e1 - 1 by omega]
            exact hc2
          · rw [ec, show n - p - e1 - 1 = n - (p + (e1 + 1)) by omega]
        · rw [if_neg hy] at hm
          rw [hm] at h5
          omega
def NL (r : hR) (s : hS) (p st : Nat) (F : Nat → hL) : Prop := ∀ a b, a < r.2.2 → b < s.2.2 → (p < a ∨ (a = p ∧ b < st)) → isTop (lst (F (a * 4 + b + 1))) (SE s (shoR id s r) r.2.2 a b)
theorem NL_step {r : hR} {s : hS} {w1 : hW} {p st : Nat} {F : Nat → hL} (hr : okR r) (hs : okS s) (hw : okW id r s w1) (hp : p < r.2.2) (hst : st < s.2.2) (hN : NL r s p st F) :
    ∃ M : Nat → hL → Prop, M 0 ((F (p * 4 + st + 1)).1, (F (p * 4 + st + 1)).2.1, 0) ∧ (∀ e L, e < 3 → p + e + 1 ≤ r.2.2 → M e L → (p + (e + 1) = r.2.2 → ((segR id s w1.1 p (e + 1) st) * s.1 st 1) < 2 ^ 63 ∧ (∀ j, j < L.2.2 → L.1 j < 2 ^ 63) ∧ (∀ j, j < L.2.2 → L.2.1 j < 2 ^ 31) ∧ L.2.2 ≤ 10 ∧ ((((segR id s w1.1 p (e + 1) st) * s.1 st 1) = 0 ∨ ∃ p0, isPos L ((segR id s w1.1 p (e + 1) st) * s.1 st 1) (tolR st e) p0 ∧ 10 ≤ p0) → M (e + 1) L) ∧ ∀ p0 L1, isPos L ((segR id s w1.1 p (e + 1) st) * s.1 st 1) (tolR st e) p0 → p0 < 10 → okOff L L1 ((segR id s w1.1 p (e + 1) st) * s.1 st 1) (tolR st e) p0 → M (e + 1) L1) ∧ (p + (e + 1) < r.2.2 → ∃ J : Nat → hL → Prop, J 0 L ∧ (∀ y L, y < s.2.2 → J y L → ∃ I : Nat → hL → Prop, I 0 L ∧ (F ((p + (e + 1)) * 4 + y + 1)).2.2 ≤ 10 ∧ okStep (F ((p + (e + 1)) * 4 + y + 1)) ((segR id s w1.1 p (e + 1) st) * s.2.1 st y) (tolR st e * 2 ^ (3 * (r.2.2 - (p + (e + 1))))) I ∧ ∀ L1, I (F ((p + (e + 1)) * 4 + y + 1)).2.2 L1 → J (y + 1) L1) ∧ ∀ L1, J s.2.2 L1 → M (e + 1) L1)) ∧ ∀ L, M (min 3 (r.2.2 - p)) L → NL r s p (st + 1) (va_up F (p * 4 + st + 1) L) := by
  have hq := hs.1
  have h6 := hr.1
  have hf : ∀ p st, shoR id s r p st ≤ 16 := fun p st => shoR_le hs p st
  refine ⟨fun e L => isTop (lst L) (SM s (shoR id s r) r.2.2 p st e), ?_, fun e L he hpe hM => ⟨fun hl => ?_, fun hl => ?_⟩, fun L hM a b ha hb hab => ?_⟩
  · exact isTop_nil (fun z hz => by obtain ⟨-, e1, h1, -⟩ := hz; omega)
  · rw [segR_sho hw (by omega) hst]
    exact stage_last hs hf h6 (by omega) he hl hM
  · refine ⟨fun y L => isTop (lst L) (SJ s (shoR id s r) r.2.2 p st e y), ?_, fun y L2 hy hJ => ?_, fun L1 h1 => isTop_congr h1 (stage_end hs (by omega) he hl)⟩
    · exact isTop_congr hM (fun z => ⟨Or.inl, fun q => q.elim id (fun ⟨y1, h1, _⟩ => absurd h1 (by omega))⟩)
    · rw [segR_sho hw (by omega) hst]
      exact stage_move hs hf h6 (by omega) he hl hJ (hN (p + (e + 1)) y hl hy (Or.inl (by omega)))
  · by_cases q : a * 4 + b + 1 = p * 4 + st + 1
    · obtain ⟨rfl, rfl⟩ : a = p ∧ b = st := by omega
      rw [va_up_self]
      refine isTop_congr hM (fun z => ⟨fun h => h.1, fun h => ⟨h, At_all (by omega) ha h.2.1⟩⟩)
    · rw [va_up_ne _ _ q]
      refine hN a b ha hb ?_
      rcases hab with u | ⟨u, v⟩
      · exact Or.inl u
      · refine Or.inr ⟨u, ?_⟩
        rcases Nat.lt_or_ge b st with g | g
        · exact g
        · exfalso
          exact q (by rw [u, show b = st by omega])
theorem NL_down {r : hR} {s : hS} {p : Nat} {F : Nat → hL} (h : NL r s (p + 1) s.2.2 F) : NL r s p 0 F := fun a b ha hb hab => h a b ha hb (by omega)
theorem NL_beg {r : hR} {s : hS} {F : Nat → hL} : NL r s (r.2.2 - 1) 0 F := fun a b ha hb hab => by omega
def SW (s : hS) (f : hG) (n y : Nat) (z : Nat × Nat) : Prop := ∃ y1, y1 < y ∧ ∃ w, SE s f n 0 y1 w ∧ 0 < s.1 y1 0 ∧ z = (s.1 y1 0 * w.1, 0 + w.2)
theorem tw_first {s : hS} {f : hG} {n c : Nat} (hn0 : 0 < n) (hc : c < 8 ^ n) : (∃ y, y < s.2.2 ∧ c / 8 ^ (n - 0 - 1) = 2 * y ∧ twW s f n n 0 0 c = s.1 y 0 * ew s f n 0 y c) ∨ twW s f n n 0 0 c = 0 := by
  have hc' := hc
  rw [show n = n - 1 + 1 by omega] at hc'
  obtain ⟨x, c3, hx, hc3, e2, e3⟩ := tw_cut (D := dW id s f) (fin := fnW id s) (n := n) (len := 0) (st := 0) hc'
  have e3 : twW s f n n 0 0 c = dW id s f (n - (n - 1 + 1)) 0 0 x * tw (dW id s f) (fnW id s) n (n - 1) (dL 0 x) (x / 2) c3 := by
    rw [← e3]
    show tw _ _ n n 0 0 c = tw _ _ n (n - 1 + 1) 0 0 c
    rw [show n - 1 + 1 = n by omega]
  rw [show n - (n - 1 + 1) = 0 by omega] at e3
  by_cases hev : x % 2 = 0
  · obtain ⟨y, rfl⟩ : ∃ y, x = 2 * y := ⟨x / 2, by omega⟩
    rw [dW_e0, dL_e, show 2 * y / 2 = y by omega] at e3
    by_cases hy : y < s.2.2
    · left
      rw [if_pos hy] at e3
      refine ⟨y, hy, by rw [e2, show n - 0 - 1 = n - 1 by omega]; exact (dm hc3).1, ?_⟩
      have e4 := ew_1 (s := s) (f := f) (n := n) (p := 0) (st := y) (c := c3) (by rw [show n - 0 - 1 = n - 1 by omega]; exact hc3)
      rw [show n - 0 - 1 = n - 1 by omega, ← e2] at e4
      rw [e3, e4, Nat.mul_assoc]
      rfl
    · right
      rw [if_neg hy, Nat.zero_mul] at e3
      exact e3
  · right
    obtain ⟨y, rfl⟩ : ∃ y, x = 2 * y + 1 := ⟨x / 2, by omega⟩
    rw [dW_o0, Nat.zero_mul] at e3
    exact e3
theorem SW_all {s : hS} {f : hG} {n : Nat} (hq : s.2.2 ≤ 4) (hn0 : 0 < n) (z : Nat × Nat) : SW s f n s.2.2 z ↔ (z.2 < 8 ^ n ∧ 0 < twW s f n n 0 0 z.2 ∧ z.1 = twW s f n n 0 0 z.2) := by
  constructor
  · rintro ⟨y, hy, w, hw, h0, rfl⟩
    have hlt : w.2 < 8 ^ n := by have := hw.1; rw [Nat.sub_zero] at this; exact this
    have hd := SE_dig hw
    have he : twW s f n n 0 0 w.2 = s.1 y 0 * ew s f n 0 y w.2 := by
      have hmod : w.2 % 8 ^ (n - 1) < 8 ^ (n - 1) := Nat.mod_lt _ (Nat.pow_pos (by omega))
      have e2 : w.2 = 2 * y * 8 ^ (n - 1) + w.2 % 8 ^ (n - 1) := by
        rw [show n - 0 - 1 = n - 1 by omega] at hd
        rw [← hd, Nat.mul_comm]
        exact (Nat.div_add_mod _ _).symm
      have e4 := ew_1 (s := s) (f := f) (n := n) (p := 0) (st := y) (c := w.2 % 8 ^ (n - 1)) (by rw [show n - 0 - 1 = n - 1 by omega]; exact hmod)
      rw [show n - 0 - 1 = n - 1 by omega, ← e2] at e4
      rw [e4]
      show tw _ _ n n 0 0 w.2 = _
      rw [show tw (dW id s f) (fnW id s) n n 0 0 w.2 = tw (dW id s f) (fnW id s) n (n - 1 + 1) 0 0 (2 * y * 8 ^ (n - 1) + w.2 % 8 ^ (n - 1)) by rw [show n - 1 + 1 = n by omega, ← e2]]
      rw [tw_s hmod, show n - (n - 1 + 1) = 0 by omega, dW_e0, dL_e, if_pos hy, show 2 * y / 2 = y by omega, Nat.mul_assoc]
      rfl
    show 0 + w.2 < 8 ^ n ∧ 0 < twW s f n n 0 0 (0 + w.2) ∧ s.1 y 0 * w.1 = twW s f n n 0 0 (0 + w.2)
    rw [Nat.zero_add, he, hw.2.2]
    exact ⟨hlt, Nat.mul_pos h0 hw.2.1, rfl⟩
  · rintro ⟨h1, h2, h3⟩
    rcases tw_first (s := s) (f := f) hn0 h1 with ⟨y, hy, hd, he⟩ | h0
    · rw [he] at h2 h3
      refine ⟨y, hy, (ew s f n 0 y z.2, z.2), ⟨by rw [Nat.sub_zero]; exact h1, Nat.pos_of_mul_pos_left h2, rfl⟩, Nat.pos_of_mul_pos_right h2, Prod.ext h3 (Nat.zero_add _).symm⟩
    · omega
theorem NL_whole {r : hR} {s : hS} {F : Nat → hL} (hr : okR r) (hs : okS s) (hn0 : 0 < r.2.2) (hN : NL r s 0 s.2.2 F) :
    ∃ J : Nat → hL → Prop, J 0 ((F 0).1, (F 0).2.1, 0) ∧ (∀ y L, y < s.2.2 → J y L → ∃ I : Nat → hL → Prop, I 0 L ∧ (F (0 * 4 + y + 1)).2.2 ≤ 10 ∧ okStep (F (0 * 4 + y + 1)) (s.1 y 0) 0 I ∧ ∀ L1, I (F (0 * 4 + y + 1)).2.2 L1 → J (y + 1) L1) ∧ ∀ L, J s.2.2 L → isTop (lst L) (fun z => z.2 < 8 ^ r.2.2 ∧ 0 < twW s (shoR id s r) r.2.2 r.2.2 0 0 z.2 ∧ z.1 = twW s (shoR id s r) r.2.2 r.2.2 0 0 z.2) := by
  have hq := hs.1
  have h6 := hr.1
  have hf : ∀ p st, shoR id s r p st ≤ 16 := fun p st => shoR_le hs p st
  have hnum : ∀ y w, SE s (shoR id s r) r.2.2 0 y w → s.1 y 0 * w.1 < 2 ^ 63 ∧ 0 + w.2 < 2 ^ 31 := by
    intro y w hw
    have h1 := ew_le (n := r.2.2) (p := 0) (st := y) (c := w.2) hs hf
    have h2 : 256 ^ (r.2.2 - 0 - 1) ≤ 256 ^ 5 := Nat.pow_le_pow_right (by omega) (by omega)
    have h3 := Nat.mul_le_mul (hs.2.1 y 0) (Nat.le_trans h1 (Nat.mul_le_mul_left 256 h2))
    rw [← hw.2.2] at h3
    have h4 : 4 * (256 * 256 ^ 5) < 2 ^ 63 := by decide
    exact ⟨by omega, by rw [Nat.zero_add]; exact (SE_b hs hf h6 hw).2⟩
  refine ⟨fun y L => isTop (lst L) (SW s (shoR id s r) r.2.2 y), isTop_nil (fun z hz => by obtain ⟨y1, h1, -⟩ := hz; omega), fun y L hy hJ => ?_, fun L hJ => isTop_congr hJ (SW_all hq hn0)⟩
  have hnw : ∀ z w, SW s (shoR id s r) r.2.2 y z → SE s (shoR id s r) r.2.2 0 y w → z.2 ≠ 0 + w.2 := by
    intro z w hz hw
    obtain ⟨y1, h1, v, h2, -, rfl⟩ := hz
    intro q
    have q : 0 + v.2 = 0 + w.2 := q
    have h4 := SE_dig h2
    have h5 := SE_dig hw
    rw [show v.2 = w.2 by omega, h5] at h4
    omega
  have hbb : ∀ z, SW s (shoR id s r) r.2.2 y z → z.1 < 2 ^ 63 ∧ z.2 < 2 ^ 31 := by
    intro z hz
    obtain ⟨y1, h1, v, h2, -, rfl⟩ := hz
    exact hnum y1 v h2
  obtain ⟨I, i0, i1, i2, i3⟩ := step_top (fa := s.1 y 0) (ah := 0) (hN 0 y hn0 hy (Or.inr ⟨rfl, hy⟩)) hJ hnw (fun w hw => by rw [Nat.zero_or, Nat.zero_add]) (fun w hw => hnum y w hw) hbb (fun w v h1 h2 h3 => SE_inj h1 h2 h3) (fun w hw => by rw [hw.2.2]; exact hw.2.1)
  · refine ⟨I, i0, i1, i2, fun L1 h1 => isTop_congr (i3 L1 h1) (fun z => ?_)⟩
    constructor
    · rintro (⟨y1, h1, h2⟩ | ⟨w, h1, h2, h3⟩)
      · exact ⟨y1, by omega, h2⟩
      · exact ⟨y, Nat.lt_succ_self y, w, h1, h2, h3⟩
    · rintro ⟨y1, h1, w, h2, h3, h4⟩
      rcases Nat.lt_or_ge y1 y with u | u
      · exact Or.inl ⟨y1, u, w, h2, h3, h4⟩
      · obtain rfl : y1 = y := by omega
        exact Or.inr ⟨w, h2, h3, h4⟩
def Qb (r : hR) (ms : hA) (mp : hP) (F : Nat → hL) : Prop := isTop (lst (F 0)) (fun x => x.2 < FB r.2.2 ∧ 0 < wtc ms mp x.2 ∧ x.1 = wtc ms mp x.2)
theorem Qb_of {r : hR} {s : hS} {ms : hA} {mp : hP} (h : relW r s ms mp) (hn0 : 0 < r.2.2) {F : Nat → hL} {L : hL} (hL : isTop (lst L) (fun z => z.2 < 8 ^ r.2.2 ∧ 0 < twW s (shoR id s r) r.2.2 r.2.2 0 0 z.2 ∧ z.1 = twW s (shoR id s r) r.2.2 r.2.2 0 0 z.2)) : Qb r ms mp (va_up F 0 L) := by
  unfold Qb
  rw [va_up_self]
  refine isTop_congr hL (fun z => ?_)
  have hF : FB r.2.2 = 8 ^ r.2.2 := by unfold FB; rw [if_neg (by omega)]
  rw [hF]
  constructor
  · rintro ⟨h1, h2, h3⟩
    rw [relW_tw h (f := shoR id s r) (fun _ _ _ _ => rfl) hn0 h1]
    exact ⟨h1, h2, h3⟩
  · rintro ⟨h1, h2, h3⟩
    rw [relW_tw h (f := shoR id s r) (fun _ _ _ _ => rfl) hn0 h1] at h2 h3
    exact ⟨h1, h2, h3⟩
theorem Qb_0 {r : hR} {ms : hA} {mp : hP} {F : Nat → hL} (hn0 : r.2.2 = 0) : Qb r ms mp (va_up F 0 ((F 0).1, (F 0).2.1, 0)) := by
  unfold Qb
  rw [va_up_self, hn0]
  exact isTop_nil (fun z hz => absurd hz.1 (by show ¬ z.2 < 0; omega))
theorem Qb_b {r : hR} {ms : hA} {mp : hP} {F : Nat → hL} (hr : okR r) (h : Qb r ms mp F) : (F 0).2.2 ≤ 10 ∧ ∀ i, i < (F 0).2.2 → (F 0).2.1 i < 2 ^ 31 := by
  refine ⟨by rw [← lst_len]; exact h.1, fun i hi => ?_⟩
  have h1 := (h.2.2.1 _ (lst_mem.mpr ⟨i, hi, rfl⟩)).1
  have h1 : (F 0).2.1 i < FB r.2.2 := h1
  have h2 : FB r.2.2 ≤ 8 ^ 6 := by
    unfold FB
    split
    · omega
    · exact Nat.pow_le_pow_right (by omega) hr.1
  have h3 : 8 ^ 6 < 2 ^ 31 := by decide
  omega
theorem eq_best {r : hR} {s : hS} {ms : hA} {mp : hP} (hW : relW r s ms mp) {F : Nat → hL} {mc : hC} (h : Qb r ms mp F) (hA : knM ms mp mc) : (F 0).2.2 = mc.2.2.2.2.2.2.1 ∧ ∀ i, i < (F 0).2.2 → (F 0).1 i = mc.2.2.2.2.2.2.2.1 i ∧ ∀ p, p < mp.1 → nI ((F 0).2.1 i / 2 ^ (3 * (r.2.2 - 1 - p)) % 8) = mc.2.2.2.2.2.2.2.2 (6 * i + p) := by
  obtain ⟨-, -, -, -, -, -, L, hL, hlen, hrep⟩ := hA
  have hn := relW_n hW
  unfold Qb at h
  rw [← hn] at h
  have heq := isTop_eq h hL
  have hsz : (F 0).2.2 = L.length := by
    have e1 := lst_len (F 0)
    rcases Nat.lt_trichotomy (F 0).2.2 L.length with q | q | q
    · have := heq (F 0).2.2
      rw [lst_out (Nat.le_refl _), List.getElem?_eq_getElem q] at this
      cases this
    · exact q
    · have := heq L.length
      rw [lst_at q, List.getElem?_eq_none (Nat.le_refl _)] at this
      cases this
  refine ⟨by rw [hsz, hlen], fun i hi => ?_⟩
  have e1 := heq i
  rw [lst_at hi] at e1
  obtain ⟨e2, e3⟩ := hrep i _ e1.symm
  refine ⟨e2.symm, fun p hp => ?_⟩
  rw [e3 p hp, hn, Nat.pow_mul]
  rfl
