abbrev twW (s : hS) (f : hG) (n m len st c : Nat) : Nat := tw (dW id s f) (fnW id s) n m len st c
abbrev dEn (s : hS) (w : hW) (d : hD) (p : Nat) : hD := (d.1, d.2.1, d.2.2.1, opS s w d p, d.2.2.2.2.1, d.2.2.2.2.2)
def ID (r : hR) (s : hS) (g : Nat → Nat) (u : Nat) (w : hW) (p : Nat) (d : hD) (lf : Nat) : Prop :=
  0 < r.2.2 ∧ d.2.2.2.2.2 = 1 ∧ d.2.2.2.2.1 < 8 ^ p ∧ lf + sumR g 0 (d.2.2.2.2.1 * 8 ^ (r.2.2 - p)) = u ∧ lf < sumR g (d.2.2.2.2.1 * 8 ^ (r.2.2 - p)) (8 ^ (r.2.2 - p)) ∧
  ((p = 0 ∧ d.1 = 1 ∧ d.2.1 = 0 ∧ d.2.2.1 = 0) ∨ (0 < p ∧ d.2.2.1 < p ∧ p - d.2.2.1 ≤ 3 ∧ d.2.1 < s.2.2 ∧ ∀ c, c < 8 ^ (r.2.2 - p) → g (d.2.2.2.2.1 * 8 ^ (r.2.2 - p) + c) = d.1 * prd w.1 d.2.1 d.2.2.1 (p - d.2.2.1) * twW s w.1 r.2.2 (r.2.2 - p) (p - d.2.2.1) d.2.1 c))
theorem frW {r : hR} {s : hS} {w : hW} (hq : s.2.2 ≤ 4) (h : okW id r s w) {p y : Nat} (hp : p < r.2.2) (hy : y < s.2.2) : w.1 p y * TS (dW id s w.1) (fnW id s) r.2.2 (r.2.2 - p - 1) 1 y = w.2.1 p y := by
  have e := lon_TS hq h (r.2.2 - p - 1) 1 y (by omega) (by omega) (by omega) hy
  rw [show r.2.2 - (r.2.2 - p - 1) - 1 = p by omega, prd_1] at e
  rw [e, h.2.2.1 p y hp hy]
theorem ID_num {r : hR} {s : hS} {g : Nat → Nat} {u p lf : Nat} {w : hW} {d : hD} (hg : ∀ c, c < 8 ^ r.2.2 → g c = twW s w.1 r.2.2 r.2.2 0 0 c) (hp : p < r.2.2) (hI : ID r s g u w p d lf) {x c : Nat} (hx : x < 8) (hc : c < 8 ^ (r.2.2 - p - 1)) :
    g ((d.2.2.2.2.1 * 8 + x) * 8 ^ (r.2.2 - p - 1) + c) = (if p = 0 then dW id s w.1 0 0 0 x else d.1 * prd w.1 d.2.1 d.2.2.1 (p - d.2.2.1) * dW id s w.1 p (p - d.2.2.1) d.2.1 x) * twW s w.1 r.2.2 (r.2.2 - p - 1) (if p = 0 then 1 else dL (p - d.2.2.1) x) (x / 2) c := by
  have e8 : 8 ^ (r.2.2 - p) = 8 * 8 ^ (r.2.2 - p - 1) := by rw [show r.2.2 - p = r.2.2 - p - 1 + 1 by omega, Nat.pow_succ, Nat.mul_comm]; rfl
  have eN : (d.2.2.2.2.1 * 8 + x) * 8 ^ (r.2.2 - p - 1) + c = d.2.2.2.2.1 * 8 ^ (r.2.2 - p) + (x * 8 ^ (r.2.2 - p - 1) + c) := by
    rw [e8, Nat.add_mul, Nat.mul_assoc, Nat.add_assoc]
  have hlt : x * 8 ^ (r.2.2 - p - 1) + c < 8 ^ (r.2.2 - p) := by
    rw [e8]
    have := Nat.mul_le_mul_right (8 ^ (r.2.2 - p - 1)) (show x ≤ 7 by omega)
    omega
  have hm : r.2.2 - p = r.2.2 - p - 1 + 1 := by omega
  obtain ⟨h0, h1, h2, h3, h4, h5⟩ := hI
  rcases h5 with ⟨rfl, h6, h7, h8⟩ | ⟨hp0, h6, h7, h8, h9⟩
  · have hz : d.2.2.2.2.1 = 0 := by
      have : d.2.2.2.2.1 < 8 ^ 0 := h2
      rw [Nat.pow_zero] at this
      omega
    rw [eN, hz, Nat.zero_mul, Nat.zero_add, if_pos rfl, if_pos rfl]
    rw [Nat.sub_zero] at hlt hm hc ⊢
    rw [hg _ hlt]
    show tw _ _ r.2.2 r.2.2 0 0 _ = _
    rw [show tw (dW id s w.1) (fnW id s) r.2.2 r.2.2 0 0 (x * 8 ^ (r.2.2 - 1) + c) = tw (dW id s w.1) (fnW id s) r.2.2 (r.2.2 - 1 + 1) 0 0 (x * 8 ^ (r.2.2 - 1) + c) by rw [← hm]]
    rw [tw_s hc, show r.2.2 - (r.2.2 - 1 + 1) = 0 by omega, show dL 0 x = 1 by unfold dL; split <;> rfl]
  · rw [eN, h9 _ hlt, if_neg (by omega), if_neg (by omega)]
    show _ * tw _ _ r.2.2 (r.2.2 - p) (p - d.2.2.1) d.2.1 _ = _
    rw [show tw (dW id s w.1) (fnW id s) r.2.2 (r.2.2 - p) (p - d.2.2.1) d.2.1 (x * 8 ^ (r.2.2 - p - 1) + c) = tw (dW id s w.1) (fnW id s) r.2.2 (r.2.2 - p - 1 + 1) (p - d.2.2.1) d.2.1 (x * 8 ^ (r.2.2 - p - 1) + c) by rw [← hm]]
    rw [tw_s hc, show r.2.2 - (r.2.2 - p - 1 + 1) = p by omega, Nat.mul_assoc, Nat.mul_assoc, Nat.mul_assoc]
theorem ID_blk {r : hR} {s : hS} {g : Nat → Nat} {u p lf : Nat} {w : hW} {d : hD} (hq : s.2.2 ≤ 4) (hw : okW id r s w) (hg : ∀ c, c < 8 ^ r.2.2 → g c = twW s w.1 r.2.2 r.2.2 0 0 c) (hp : p < r.2.2) (hI : ID r s g u w p d lf) {x : Nat} (hx : x < 8) :
    sumR g ((d.2.2.2.2.1 * 8 + x) * 8 ^ (r.2.2 - p - 1)) (8 ^ (r.2.2 - p - 1)) = if x < 2 * s.2.2 then sumD s r.2.2 w (dEn s w d p) p x else 0 := by
  have e : sumR g ((d.2.2.2.2.1 * 8 + x) * 8 ^ (r.2.2 - p - 1)) (8 ^ (r.2.2 - p - 1)) = (if p = 0 then dW id s w.1 0 0 0 x else d.1 * prd w.1 d.2.1 d.2.2.1 (p - d.2.2.1) * dW id s w.1 p (p - d.2.2.1) d.2.1 x) * TS (dW id s w.1) (fnW id s) r.2.2 (r.2.2 - p - 1) (if p = 0 then 1 else dL (p - d.2.2.1) x) (x / 2) := by
    rw [sumR_sh0]
    unfold TS
    rw [← sumR_mul]
    refine sumR_congr (fun c hc => ?_)
    rw [Nat.zero_add]
    exact ID_num hg hp hI hx hc
  rw [e]
  obtain ⟨h0, h1, h2, h3, h4, h5⟩ := hI
  rcases h5 with ⟨rfl, h6, h7, h8⟩ | ⟨hp0, h6, h7, h8, h9⟩
  · rw [if_pos rfl, if_pos rfl]
    unfold sumD cloS
    by_cases ev : x % 2 = 0
    · obtain ⟨y, rfl⟩ : ∃ y, x = 2 * y := ⟨x / 2, by omega⟩
      rw [dW_e0, if_pos ev, show 2 * y / 2 = y by omega]
      by_cases hy : y < s.2.2
      · rw [if_pos hy, if_pos (by omega), if_pos rfl, Nat.mul_assoc, ← frW hq hw hp hy, h6]
        show _ = 1 * s.1 y 0 * _
        rw [Nat.one_mul]
        rfl
      · rw [if_neg hy, if_neg (by omega), Nat.zero_mul]
    · obtain ⟨y, rfl⟩ : ∃ y, x = 2 * y + 1 := ⟨x / 2, by omega⟩
      rw [dW_o0, Nat.zero_mul, if_neg ev, if_pos (Or.inl rfl)]
      split <;> rfl
  · rw [if_neg (by omega), if_neg (by omega)]
    unfold sumD cloS
    by_cases ev : x % 2 = 0
    · obtain ⟨y, rfl⟩ : ∃ y, x = 2 * y := ⟨x / 2, by omega⟩
      rw [dW_e hp0, if_pos ev, show 2 * y / 2 = y by omega, dL_e]
      by_cases hy : y < s.2.2
      · rw [if_pos hy, if_pos (by omega), if_neg (by omega), ← frW hq hw hp hy]
        show _ = d.1 * (opS s w d p * s.2.1 d.2.1 y) * _
        unfold opS
        rw [if_pos ⟨by omega, h7⟩, segR_prd _ _ _ _ _ _ (by omega)]
        show d.1 * prd w.1 d.2.1 d.2.2.1 (p - d.2.2.1) * (s.1 d.2.1 (1 + (p - d.2.2.1)) * s.2.1 d.2.1 y * w.1 p y) * _ = d.1 * (s.1 d.2.1 (1 + (p - d.2.2.1)) * prd w.1 d.2.1 d.2.2.1 (p - d.2.2.1) * s.2.1 d.2.1 y) * _
        ac_rfl
      · rw [if_neg hy, if_neg (by omega), Nat.mul_zero, Nat.zero_mul]
    · obtain ⟨y, rfl⟩ : ∃ y, x = 2 * y + 1 := ⟨x / 2, by omega⟩
      rw [dW_o hp0, if_neg ev, show (2 * y + 1) / 2 = y by omega, dL_o]
      by_cases hy : y = d.2.1
      · subst hy
        rw [if_pos (show 2 * d.2.1 + 1 < 2 * s.2.2 by omega), if_neg (show ¬ (p = 0 ∨ d.2.1 ≠ (dEn s w d p).2.1) from fun q => q.elim (fun e => by omega) (fun e => e rfl))]
        show _ = d.1 * lonR id s r.2.2 w.1 w.2.2.1 (p - d.2.2.1) d.2.2.1 d.2.1
        by_cases hl : p - d.2.2.1 < 3
        · rw [if_pos ⟨rfl, hl⟩]
          have e2 := lon_TS hq hw (r.2.2 - p - 1) (p - d.2.2.1 + 1) d.2.1 (by omega) (by omega) (by omega) h8
          rw [show r.2.2 - (r.2.2 - p - 1) - (p - d.2.2.1 + 1) = d.2.2.1 by omega, prd_s, show d.2.2.1 + (p - d.2.2.1) = p by omega, show p - d.2.2.1 + 1 - 1 = p - d.2.2.1 by omega] at e2
          rw [← e2]
          ac_rfl
        · rw [if_neg (fun q => hl q.2), Nat.mul_zero, Nat.zero_mul]
          unfold lonR
          rw [show min 3 (r.2.2 - d.2.2.1) - (p - d.2.2.1) = 0 by omega]
          rfl
      · rw [if_neg (fun q => hy q.1), Nat.mul_zero, Nat.zero_mul, if_pos (show p = 0 ∨ y ≠ (dEn s w d p).2.1 from Or.inr hy)]
        split <;> rfl
theorem ID_pre {r : hR} {s : hS} {g : Nat → Nat} {u p lf : Nat} {w : hW} {d : hD} (hq : s.2.2 ≤ 4) (hw : okW id r s w) (hg : ∀ c, c < 8 ^ r.2.2 → g c = twW s w.1 r.2.2 r.2.2 0 0 c) (hp : p < r.2.2) (hI : ID r s g u w p d lf) {x : Nat} (hx : x ≤ 2 * s.2.2) :
    sumR g (d.2.2.2.2.1 * 8 ^ (r.2.2 - p)) (x * 8 ^ (r.2.2 - p - 1)) = sumR (fun y => sumD s r.2.2 w (dEn s w d p) p y) 0 x := by
  have e8 : 8 ^ (r.2.2 - p) = 8 * 8 ^ (r.2.2 - p - 1) := by rw [show r.2.2 - p = r.2.2 - p - 1 + 1 by omega, Nat.pow_succ, Nat.mul_comm]; rfl
  rw [sumR_blk]
  refine sumR_congr (fun y hy => ?_)
  simp only [Nat.zero_add]
  have e := ID_blk hq hw hg hp hI (x := y) (by omega)
  rw [if_pos (by omega), Nat.add_mul, Nat.mul_assoc, ← e8] at e
  exact e
theorem ID_all {r : hR} {s : hS} {g : Nat → Nat} {u p lf : Nat} {w : hW} {d : hD} (hq : s.2.2 ≤ 4) (hw : okW id r s w) (hg : ∀ c, c < 8 ^ r.2.2 → g c = twW s w.1 r.2.2 r.2.2 0 0 c) (hp : p < r.2.2) (hI : ID r s g u w p d lf) :
    sumR g (d.2.2.2.2.1 * 8 ^ (r.2.2 - p)) (8 ^ (r.2.2 - p)) = sumR (fun y => sumD s r.2.2 w (dEn s w d p) p y) 0 (2 * s.2.2) := by
  have e8 : 8 ^ (r.2.2 - p) = 8 * 8 ^ (r.2.2 - p - 1) := by rw [show r.2.2 - p = r.2.2 - p - 1 + 1 by omega, Nat.pow_succ, Nat.mul_comm]; rfl
  rw [← ID_pre hq hw hg hp hI (Nat.le_refl _)]
  have e : 8 ^ (r.2.2 - p) = 2 * s.2.2 * 8 ^ (r.2.2 - p - 1) + (8 - 2 * s.2.2) * 8 ^ (r.2.2 - p - 1) := by
    rw [e8, ← Nat.add_mul, show 2 * s.2.2 + (8 - 2 * s.2.2) = 8 by omega]
  conv => lhs; rw [show sumR g (d.2.2.2.2.1 * 8 ^ (r.2.2 - p)) (8 ^ (r.2.2 - p)) = sumR g (d.2.2.2.2.1 * 8 ^ (r.2.2 - p)) (2 * s.2.2 * 8 ^ (r.2.2 - p - 1) + (8 - 2 * s.2.2) * 8 ^ (r.2.2 - p - 1)) by rw [← e]]
  rw [sumR_add, sumR_blk (k := 8 - 2 * s.2.2), sumR_0 (m := 8 - 2 * s.2.2), Nat.add_zero]
  intro i hi
  simp only [Nat.zero_add]
  have h := ID_blk hq hw hg hp hI (x := 2 * s.2.2 + i) (by omega)
  rw [if_neg (by omega), Nat.add_mul, Nat.mul_assoc, ← e8, Nat.add_mul, ← Nat.add_assoc] at h
  exact h
theorem ID_step {r : hR} {s : hS} {g : Nat → Nat} {u p lf : Nat} {w : hW} {d : hD} (hr : okR r) (hs : okS s) (hw : okW id r s w) (hg : ∀ c, c < 8 ^ r.2.2 → g c = twW s w.1 r.2.2 r.2.2 0 0 c) (hT : sumR g 0 (8 ^ r.2.2) < 2 ^ 63) (hp : p < r.2.2) (hI : ID r s g u w p d lf) :
    d.2.2.2.2.2 = 1 ∧ d.2.1 < 4 ∧ d.2.2.1 ≤ p ∧ p - d.2.2.1 ≤ 3 ∧ d.2.2.2.2.1 < 2 ^ 20 ∧ lf < 2 ^ 63 ∧ (∀ x, x < 2 * s.2.2 → sumD s r.2.2 w (dEn s w d p) p x < 2 ^ 63) ∧ lf < sumR (fun y0 => sumD s r.2.2 w (dEn s w d p) p y0) 0 (2 * s.2.2) ∧ ∀ x, x < 2 * s.2.2 → sumR (fun y0 => sumD s r.2.2 w (dEn s w d p) p y0) 0 x ≤ lf → lf < sumR (fun y0 => sumD s r.2.2 w (dEn s w d p) p y0) 0 (x + 1) → ID r s g u w (p + 1) (takD s (dEn s w d p) p x) (lf - sumR (fun y0 => sumD s r.2.2 w (dEn s w d p) p y0) 0 x) := by
  have hq := hs.1
  have h6 := hr.1
  have hall := ID_all hq hw hg hp hI
  have e8 : 8 ^ (r.2.2 - p) = 8 * 8 ^ (r.2.2 - p - 1) := by rw [show r.2.2 - p = r.2.2 - p - 1 + 1 by omega, Nat.pow_succ, Nat.mul_comm]; rfl
  have h8p : 8 ^ p ≤ 8 ^ 6 := Nat.pow_le_pow_right (by omega) (by omega)
  have hpn : 8 ^ p * 8 ^ (r.2.2 - p) = 8 ^ r.2.2 := by rw [← Nat.pow_add, show p + (r.2.2 - p) = r.2.2 by omega]
  have hI' := hI
  obtain ⟨h0, h1, h2, h3, h4, h5⟩ := hI
  have hend : d.2.2.2.2.1 * 8 ^ (r.2.2 - p) + 8 ^ (r.2.2 - p) ≤ 8 ^ r.2.2 := by
    have := Nat.mul_le_mul_right (8 ^ (r.2.2 - p)) (show d.2.2.2.2.1 + 1 ≤ 8 ^ p by omega)
    rw [hpn, Nat.add_mul, Nat.one_mul] at this
    exact this
  have hblkT : sumR g (d.2.2.2.2.1 * 8 ^ (r.2.2 - p)) (8 ^ (r.2.2 - p)) < 2 ^ 63 := by
    have e := sumR_add g 0 (d.2.2.2.2.1 * 8 ^ (r.2.2 - p)) (8 ^ (r.2.2 - p))
    rw [Nat.zero_add] at e
    have := sumR_sub (g := g) (a := 0) hend
    omega
  have hsum : ∀ x, x < 2 * s.2.2 → sumD s r.2.2 w (dEn s w d p) p x < 2 ^ 63 := by
    intro x hx
    have e1 : sumR (fun y => sumD s r.2.2 w (dEn s w d p) p y) 0 (x + 1) = sumR (fun y => sumD s r.2.2 w (dEn s w d p) p y) 0 x + sumD s r.2.2 w (dEn s w d p) p (0 + x) := rfl
    rw [Nat.zero_add] at e1
    have e2 := sumR_sub (g := fun y => sumD s r.2.2 w (dEn s w d p) p y) (a := 0) (show x + 1 ≤ 2 * s.2.2 by omega)
    rw [hall] at hblkT
    omega
  refine ⟨h1, ?_, ?_, ?_, ?_, ?_, hsum, ?_, ?_⟩
  · rcases h5 with ⟨-, -, h7, -⟩ | ⟨-, -, -, h8, -⟩ <;> omega
  · rcases h5 with ⟨-, -, -, h8⟩ | ⟨-, h8, -, -, -⟩ <;> omega
  · rcases h5 with ⟨h9, -, -, h8⟩ | ⟨-, -, h8, -, -⟩ <;> omega
  · have : (8:Nat) ^ 6 < 2 ^ 20 := by decide
    omega
  · omega
  · rw [← hall]; exact h4
  · intro x hx hlo hhi
    have hx8 : x < 8 := by omega
    have hpre := ID_pre hq hw hg hp hI' (x := x) (by omega)
    have hblk := ID_blk hq hw hg hp hI' hx8
    rw [if_pos hx] at hblk
    have e1 : sumR (fun y => sumD s r.2.2 w (dEn s w d p) p y) 0 (x + 1) = sumR (fun y => sumD s r.2.2 w (dEn s w d p) p y) 0 x + sumD s r.2.2 w (dEn s w d p) p (0 + x) := rfl
    rw [Nat.zero_add] at e1
    have htold : (takD s (dEn s w d p) p x).2.2.2.2.1 = d.2.2.2.2.1 * 8 + x := by
      unfold takD
      split <;> rfl
    have hknown : (takD s (dEn s w d p) p x).2.2.2.2.2 = 1 := by
      unfold takD
      split <;> exact h1
    have hnum : ∀ c, c < 8 ^ (r.2.2 - p - 1) → _ := fun c hc => ID_num hg hp hI' hx8 hc
    have hpos : 0 < sumD s r.2.2 w (dEn s w d p) p x := by omega
    refine ⟨h0, hknown, ?_, ?_, ?_, Or.inr ?_⟩
    · rw [htold, Nat.pow_succ]
      omega
    · rw [htold, show r.2.2 - (p + 1) = r.2.2 - p - 1 by omega, Nat.add_mul, Nat.mul_assoc, ← e8, sumR_add, Nat.zero_add, hpre]
      omega
    · rw [htold, show r.2.2 - (p + 1) = r.2.2 - p - 1 by omega, hblk]
      omega
    · rw [htold, show r.2.2 - (p + 1) = r.2.2 - p - 1 by omega]
      by_cases ev : x % 2 = 0
      · have et : takD s (dEn s w d p) p x = (d.1 * cloS s (dEn s w d p) p (x / 2), x / 2, p, opS s w d p, d.2.2.2.2.1 * 8 + x, d.2.2.2.2.2) := if_pos ev
        rw [et]
        refine ⟨by omega, Nat.lt_succ_self p, by show p + 1 - p ≤ 3; omega, by show x / 2 < s.2.2; omega, fun c hc => ?_⟩
        rw [hnum c hc]
        show _ = d.1 * cloS s (dEn s w d p) p (x / 2) * prd w.1 (x / 2) p (p + 1 - p) * twW s w.1 r.2.2 (r.2.2 - p - 1) (p + 1 - p) (x / 2) c
        obtain ⟨y, rfl⟩ : ∃ y, x = 2 * y := ⟨x / 2, by omega⟩
        rw [show p + 1 - p = 1 by omega, prd_1, show 2 * y / 2 = y by omega]
        rcases h5 with ⟨rfl, h6, h7, h8⟩ | ⟨hp0, h6, h7, h8, h9⟩
        · rw [if_pos rfl, if_pos rfl, dW_e0, if_pos (by omega), h6]
          show s.1 y 0 * w.1 0 y * _ = 1 * (if 0 = 0 then s.1 y 0 else _) * w.1 0 y * _
          rw [if_pos rfl, Nat.one_mul]
        · rw [if_neg (by omega), if_neg (by omega), dW_e hp0, dL_e, if_pos (by omega)]
          unfold cloS
          rw [if_neg (by omega)]
          show _ = d.1 * (opS s w d p * s.2.1 d.2.1 y) * _ * _
          unfold opS
          rw [if_pos ⟨by omega, h7⟩, segR_prd _ _ _ _ _ _ (by omega)]
          show d.1 * prd w.1 d.2.1 d.2.2.1 (p - d.2.2.1) * (s.1 d.2.1 (1 + (p - d.2.2.1)) * s.2.1 d.2.1 y * w.1 p y) * _ = d.1 * (s.1 d.2.1 (1 + (p - d.2.2.1)) * prd w.1 d.2.1 d.2.2.1 (p - d.2.2.1) * s.2.1 d.2.1 y) * _ * _
          ac_rfl
      · have et : takD s (dEn s w d p) p x = (d.1, d.2.1, d.2.2.1, opS s w d p, d.2.2.2.2.1 * 8 + x, d.2.2.2.2.2) := if_neg ev
        rw [et]
        have hs1 : p ≠ 0 ∧ x / 2 = d.2.1 ∧ 0 < lonR id s r.2.2 w.1 w.2.2.1 (p - d.2.2.1) d.2.2.1 (x / 2) := by
          unfold sumD at hpos
          rw [if_neg ev] at hpos
          by_cases q : p = 0 ∨ x / 2 ≠ (dEn s w d p).2.1
          · rw [if_pos q] at hpos
            omega
          · rw [if_neg q] at hpos
            have q1 : ¬ p = 0 := fun e => q (Or.inl e)
            have q2 : ¬ x / 2 ≠ d.2.1 := fun e => q (Or.inr e)
            refine ⟨q1, by omega, ?_⟩
            exact Nat.pos_of_mul_pos_left hpos
        obtain ⟨hp0, hxs, hlon⟩ := hs1
        have hlen : p - d.2.2.1 < 3 := by
          rcases Nat.lt_or_ge (p - d.2.2.1) 3 with q | q
          · exact q
          · exfalso
            unfold lonR at hlon
            rw [show min 3 (r.2.2 - d.2.2.1) - (p - d.2.2.1) = 0 by omega] at hlon
            exact absurd hlon (Nat.lt_irrefl _)
        rcases h5 with ⟨h9, -⟩ | ⟨-, h6, h7, h8, h9⟩
        · exact absurd h9 hp0
        · refine ⟨by omega, by show d.2.2.1 < p + 1; omega, by show p + 1 - d.2.2.1 ≤ 3; omega, h8, fun c hc => ?_⟩
          rw [hnum c hc, if_neg hp0, if_neg hp0]
          show _ = d.1 * prd w.1 d.2.1 d.2.2.1 (p + 1 - d.2.2.1) * twW s w.1 r.2.2 (r.2.2 - p - 1) (p + 1 - d.2.2.1) d.2.1 c
          rw [dW_od (by omega) ev hxs hlen, show p + 1 - d.2.2.1 = p - d.2.2.1 + 1 by omega, prd_s, show d.2.2.1 + (p - d.2.2.1) = p by omega, show dL (p - d.2.2.1) x = p - d.2.2.1 + 1 from if_neg ev, hxs, Nat.mul_assoc (d.1)]
theorem ID_end {r : hR} {s : hS} {g : Nat → Nat} {u lf : Nat} {w : hW} {d : hD} (hI : ID r s g u w r.2.2 d lf) : d.2.1 < s.2.2 ∧ d.2.2.1 ≤ r.2.2 ∧ d.2.2.2.2.2 = 1 ∧ d.2.2.2.2.1 < 8 ^ r.2.2 ∧ d.1 * opS s w d r.2.2 * s.1 d.2.1 1 = g d.2.2.2.2.1 ∧ sumR g 0 d.2.2.2.2.1 ≤ u ∧ u < sumR g 0 (d.2.2.2.2.1 + 1) := by
  obtain ⟨h0, h1, h2, h3, h4, h5⟩ := hI
  rw [Nat.sub_self, Nat.pow_zero, Nat.mul_one] at h3 h4
  have h4' : lf < 0 + g (d.2.2.2.2.1 + 0) := h4
  rw [Nat.zero_add, Nat.add_zero] at h4'
  rcases h5 with ⟨h9, -⟩ | ⟨-, h6, h7, h8, h9⟩
  · omega
  · have e := h9 0 (by rw [Nat.sub_self]; exact Nat.one_pos)
    rw [Nat.sub_self, Nat.pow_zero, Nat.mul_one, Nat.add_zero] at e
    refine ⟨h8, by omega, h1, h2, ?_, by omega, ?_⟩
    · rw [e]
      unfold opS
      rw [if_pos ⟨by omega, h7⟩, segR_prd _ _ _ _ _ _ (by omega)]
      show d.1 * (s.1 d.2.1 (1 + (r.2.2 - d.2.2.1)) * prd w.1 d.2.1 d.2.2.1 (r.2.2 - d.2.2.1)) * s.1 d.2.1 1 = d.1 * prd w.1 d.2.1 d.2.2.1 (r.2.2 - d.2.2.1) * (s.1 d.2.1 (1 + (r.2.2 - d.2.2.1)) * s.1 d.2.1 1)
      ac_rfl
    · rw [sumR_s]
      omega
theorem ID_beg {r : hR} {s : hS} {g : Nat → Nat} {u z : Nat} {w : hW} (hn0 : 0 < r.2.2) (hu : u < sumR g 0 (8 ^ r.2.2)) : ID r s g u w 0 (1, 0, 0, z, 0, 1) u := by
  refine ⟨hn0, rfl, Nat.one_pos, ?_, ?_, Or.inl ⟨rfl, rfl, rfl, rfl⟩⟩
  · show u + sumR g 0 (0 * 8 ^ (r.2.2 - 0)) = u
    rw [Nat.zero_mul]
    rfl
  · show u < sumR g (0 * 8 ^ (r.2.2 - 0)) (8 ^ (r.2.2 - 0))
    rw [Nat.zero_mul, Nat.sub_zero]
    exact hu
theorem draw_one {g : Nat → Nat} {u a b : Nat} (h1 : sumR g 0 a ≤ u) (h2 : u < sumR g 0 (a + 1)) (h3 : sumR g 0 b ≤ u) (h4 : u < sumR g 0 (b + 1)) : a = b := by
  rcases Nat.lt_trichotomy a b with q | q | q
  · have := sumR_sub (g := g) (a := 0) (show a + 1 ≤ b by omega)
    omega
  · exact q
  · have := sumR_sub (g := g) (a := 0) (show b + 1 ≤ a by omega)
    omega
