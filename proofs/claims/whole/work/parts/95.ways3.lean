def relS (s : hS) (ms : hA) : Prop := s.2.2 = ms.1 ∧ (∀ j z, j < 4 → z < 9 → s.1 j z = ms.2.1 (9 * j + z)) ∧ ∀ j z, j < 4 → z < 4 → s.2.1 j z = ms.2.2 (4 * j + z)
def okH (r : hR) : Prop := ∀ p, p < r.2.2 → r.2.1 p = -1 ∨ ∃ z, z < 4 ∧ r.2.1 p = nI z
def hd (D : Nat → Nat → Nat → Nat → Nat) (v : Nat → Nat) : Nat → Nat
  | 0 => 1
  | p + 1 => hd D v p * D p (if p = 0 then 0 else sty v (p - 1)) (if p = 0 then 0 else v (p - 1) / 2) (v p)
theorem cl4 {z : Nat} (h : z < 4) : (nI z).toNatClampNeg = z := by
  obtain rfl | rfl | rfl | rfl : z = 0 ∨ z = 1 ∨ z = 2 ∨ z = 3 := by omega
  all_goals decide
theorem ng4 {z : Nat} (h : z < 4) : ¬ nI z < 0 := by
  obtain rfl | rfl | rfl | rfl : z = 0 ∨ z = 1 ∨ z = 2 ∨ z = 3 := by omega
  all_goals decide
theorem nm4 {z : Nat} (h : z < 4) : nI z ≠ -1 := by
  obtain rfl | rfl | rfl | rfl : z = 0 ∨ z = 1 ∨ z = 2 ∨ z = 3 := by omega
  all_goals decide
theorem dgt_mod {n c p : Nat} (hp : p < n) : c % 8 ^ (n - p) / 8 ^ (n - p - 1) = dgt n c p := by
  unfold dgt
  have e : 8 ^ (n - p) = 8 ^ (n - 1 - p) * 8 := by rw [← Nat.pow_succ, show (n - 1 - p).succ = n - p by omega]
  rw [e, show n - p - 1 = n - 1 - p by omega, Nat.mod_mul_right_div_self]
theorem tw_hd {D : Nat → Nat → Nat → Nat → Nat} {fin : Nat → Nat → Nat} {n c : Nat} (hc : c < 8 ^ n) : ∀ p, 1 ≤ p → p ≤ n → tw D fin n n 0 0 c = hd D (dgt n c) p * tw D fin n (n - p) (sty (dgt n c) (p - 1)) (dgt n c (p - 1) / 2) (c % 8 ^ (n - p)) := by
  intro p
  induction p with
  | zero => intro h; exfalso; omega
  | succ p ih =>
    intro h1 h2
    have hm : c % 8 ^ (n - p) % 8 ^ (n - p - 1) = c % 8 ^ (n - (p + 1)) := by
      rw [show n - (p + 1) = n - p - 1 by omega]
      exact Nat.mod_mod_of_dvd c (Nat.pow_dvd_pow 8 (by omega))
    have hd1 := dgt_mod (n := n) (c := c) (p := p) (by omega)
    rcases Nat.eq_zero_or_pos p with rfl | hp
    · rw [Nat.sub_zero, Nat.mod_eq_of_lt hc] at hm hd1
      rw [show tw D fin n n 0 0 c = tw D fin n (n - 1 + 1) 0 0 c by rw [show n - 1 + 1 = n by omega]]
      show D (n - (n - 1 + 1)) 0 0 (c / 8 ^ (n - 1)) * tw D fin n (n - 1) (dL 0 (c / 8 ^ (n - 1))) (c / 8 ^ (n - 1) / 2) (c % 8 ^ (n - 1)) = 1 * D 0 0 0 (dgt n c 0) * tw D fin n (n - 1) 1 (dgt n c 0 / 2) (c % 8 ^ (n - 1))
      rw [hd1, show n - (n - 1 + 1) = 0 by omega, Nat.one_mul, show dL 0 (dgt n c 0) = 1 by unfold dL; split <;> rfl]
    · rw [ih hp (by omega), show tw D fin n (n - p) (sty (dgt n c) (p - 1)) (dgt n c (p - 1) / 2) (c % 8 ^ (n - p)) = tw D fin n (n - p - 1 + 1) (sty (dgt n c) (p - 1)) (dgt n c (p - 1) / 2) (c % 8 ^ (n - p)) by rw [show n - p - 1 + 1 = n - p by omega]]
      show _ * (D (n - (n - p - 1 + 1)) (sty (dgt n c) (p - 1)) (dgt n c (p - 1) / 2) (c % 8 ^ (n - p) / 8 ^ (n - p - 1)) * tw D fin n (n - p - 1) (dL (sty (dgt n c) (p - 1)) (c % 8 ^ (n - p) / 8 ^ (n - p - 1))) (c % 8 ^ (n - p) / 8 ^ (n - p - 1) / 2) (c % 8 ^ (n - p) % 8 ^ (n - p - 1))) = hd D (dgt n c) p * D p (if p = 0 then 0 else sty (dgt n c) (p - 1)) (if p = 0 then 0 else dgt n c (p - 1) / 2) (dgt n c p) * _
      have e3 : dL (sty (dgt n c) (p - 1)) (dgt n c p) = sty (dgt n c) p := by
        obtain ⟨m, rfl⟩ : ∃ m, p = m + 1 := ⟨p - 1, by omega⟩
        show (if dgt n c (m + 1) % 2 = 0 then 1 else sty (dgt n c) m + 1) = if dgt n c (m + 1) % 2 = 1 then sty (dgt n c) m + 1 else 1
        by_cases e : dgt n c (m + 1) % 2 = 0
        · rw [if_pos e, if_neg (by omega)]
        · rw [if_neg e, if_pos (by omega)]
      rw [hd1, hm, if_neg (by omega), if_neg (by omega), e3, show n - (n - p - 1 + 1) = p by omega, Nat.mul_assoc]
      rfl
theorem cbR_e {q p x : Nat} {v : Nat → Nat} (h : cbR q v p x = 1) (e : x % 2 = 0) : x / 2 < q := by
  unfold cbR at h
  rw [if_pos e] at h
  by_cases g : x / 2 < q
  · exact g
  · rw [if_neg g] at h
    omega
theorem cbR_o {q p x : Nat} {v : Nat → Nat} (h : cbR q v p x = 1) (e : ¬ x % 2 = 0) : 0 < p ∧ v (p - 1) / 2 = x / 2 ∧ sty v (p - 1) < 3 := by
  unfold cbR at h
  rw [if_neg e] at h
  by_cases g : 0 < p ∧ v (p - 1) / 2 = x / 2 ∧ sty v (p - 1) < 3
  · exact g
  · rw [if_neg g] at h
    omega
theorem okV_st {q n : Nat} {v : Nat → Nat} (h : okV q n v) : ∀ i, i < n → v i / 2 < q ∧ sty v i ≤ 3
  | 0, hi => by
    by_cases e : v 0 % 2 = 0
    · exact ⟨cbR_e (h 0 hi).2 e, by show 1 ≤ 3; omega⟩
    · have := (cbR_o (h 0 hi).2 e).1
      omega
  | i + 1, hi => by
    have ih := okV_st h i (by omega)
    show _ ∧ (if v (i + 1) % 2 = 1 then sty v i + 1 else 1) ≤ 3
    by_cases e : v (i + 1) % 2 = 0
    · exact ⟨cbR_e (h _ hi).2 e, by rw [if_neg (by omega)]; omega⟩
    · have g := cbR_o (h _ hi).2 e
      rw [show i + 1 - 1 = i by omega] at g
      exact ⟨by omega, by rw [if_pos (by omega)]; omega⟩
theorem hd_ok {s : hS} {f : hG} {v : Nat → Nat} {cu : Nat → Nat} : ∀ p, (∀ i, i < p → v i < 8) → hd (dW cu s f) v p ≠ 0 → okV s.2.2 p v
  | 0, _, _ => fun i hi => absurd hi (by omega)
  | p + 1, h8, h => by
    have h' : hd (dW cu s f) v p * dW cu s f p (if p = 0 then 0 else sty v (p - 1)) (if p = 0 then 0 else v (p - 1) / 2) (v p) ≠ 0 := h
    have h1 : hd (dW cu s f) v p ≠ 0 := fun e => h' (by rw [e, Nat.zero_mul])
    have h2 : dW cu s f p (if p = 0 then 0 else sty v (p - 1)) (if p = 0 then 0 else v (p - 1) / 2) (v p) ≠ 0 := fun e => h' (by rw [e, Nat.mul_zero])
    have ih := hd_ok p (fun i hi => h8 i (by omega)) h1
    intro i hi
    rcases Nat.lt_or_ge i p with g | g
    · exact ih i g
    · obtain rfl : i = p := by omega
      refine ⟨h8 i hi, ?_⟩
      unfold dW at h2
      unfold cbR
      by_cases hp : i = 0
      · subst hp
        rw [if_pos rfl] at h2
        by_cases e : v 0 % 2 = 0 ∧ v 0 / 2 < s.2.2
        · rw [if_pos e.1, if_pos e.2]
        · rw [if_neg e] at h2
          exact absurd rfl h2
      · rw [if_neg hp, if_neg hp, if_neg hp] at h2
        by_cases e : v i % 2 = 0
        · rw [if_pos e] at h2 ⊢
          by_cases e2 : v i / 2 < s.2.2
          · rw [if_pos e2]
          · rw [if_neg e2] at h2
            exact absurd rfl h2
        · rw [if_neg e] at h2 ⊢
          by_cases e2 : v i / 2 = v (i - 1) / 2 ∧ sty v (i - 1) < 3
          · rw [if_pos ⟨by omega, e2.1.symm, e2.2⟩]
          · rw [if_neg e2] at h2
            exact absurd rfl h2
theorem wB_sho {r : hR} {s : hS} {ms : hA} {mp : hP} {vd : Nat → Nat} {p a : Nat} (hr : okR r) (hH : okH r) (hS : relS s ms) (hR : r = vR mp) (hp : p < mp.1) (hp6 : p < 6) (hv : vd p / 2 < 4) : wB mp vd p (a * msh (vS ms).1 (mp.2.1 p) (vd p / 2)) = a * shoR id s r p (vd p / 2) := by
  subst hR
  have hm : msh (vS ms).1 (mp.2.1 p) (vd p / 2) = if mp.2.1 p = -1 then id (sumR (fun y => s.1 (vd p / 2) (5 + y)) 0 4) else id (s.1 (vd p / 2) (5 + (mp.2.1 p).toNatClampNeg)) := by
    unfold msh
    by_cases e : mp.2.1 p = -1
    · rw [if_pos e, if_pos e]
      show _ = sumR _ 0 4
      refine sumR_congr (fun i hi => ?_)
      show ms.2.1 (9 * (vd p / 2) + (5 + (0 + i))) = s.1 (vd p / 2) (5 + (0 + i))
      rw [hS.2.1 _ _ hv (by omega)]
    · rw [if_neg e, if_neg e]
      obtain g | ⟨z, hz, g⟩ := hr.2 p hp6
      · exact absurd g e
      · have g : mp.2.1 p = nI z := g
        rw [g, cl4 hz]
        show ms.2.1 (9 * (vd p / 2) + (5 + z)) = s.1 (vd p / 2) (5 + z)
        rw [hS.2.1 _ _ hv (by omega)]
  unfold wB shoR
  rw [hm]
  show (if ¬ mp.2.2 p < 0 ∧ mp.2.2 p ≠ nI (vd p / 2) then 0 else _) = a * (if mp.2.2 p ≠ -1 ∧ mp.2.2 p ≠ nI (vd p / 2) then 0 else _)
  have hiff : (¬ mp.2.2 p < 0 ∧ mp.2.2 p ≠ nI (vd p / 2)) ↔ (mp.2.2 p ≠ -1 ∧ mp.2.2 p ≠ nI (vd p / 2)) := by
    obtain g | ⟨z, hz, g⟩ := hH p hp
    · have g : mp.2.2 p = -1 := g
      rw [g]
      exact ⟨fun q => absurd (by decide) q.1, fun q => absurd rfl q.1⟩
    · have g : mp.2.2 p = nI z := g
      rw [g]
      exact ⟨fun q => ⟨nm4 hz, q.2⟩, fun q => ⟨ng4 hz, q.2⟩⟩
  by_cases e : mp.2.2 p ≠ -1 ∧ mp.2.2 p ≠ nI (vd p / 2)
  · rw [if_pos (hiff.mpr e), if_pos e, Nat.mul_zero]
  · rw [if_neg (fun q => e (hiff.mp q)), if_neg e]
    rfl
theorem dW_ev {cu : Nat → Nat} {s : hS} {f : hG} {p len st x : Nat} (hp : 0 < p) (e : x % 2 = 0) (h : x / 2 < s.2.2) : dW cu s f p len st x = cu (s.1 st (1 + len)) * cu (s.2.1 st (x / 2)) * f p (x / 2) := by
  unfold dW
  rw [if_neg (c := p = 0) (by omega), if_pos e, if_pos h]
theorem dW_od {cu : Nat → Nat} {s : hS} {f : hG} {p len st x : Nat} (hp : 0 < p) (e : ¬ x % 2 = 0) (h : x / 2 = st) (h3 : len < 3) : dW cu s f p len st x = f p st := by
  unfold dW
  rw [if_neg (c := p = 0) (by omega), if_neg e, if_pos ⟨h, h3⟩]
theorem wac_hd {r : hR} {s : hS} {ms : hA} {mp : hP} {f : hG} {v : Nat → Nat} (hr : okR r) (hH : okH r) (hq : s.2.2 ≤ 4) (hS : relS s ms) (hR : r = vR mp) (hf : ∀ p st, p < r.2.2 → st < s.2.2 → f p st = shoR id s r p st) (hok : okV s.2.2 mp.1 v) : ∀ p, p < mp.1 → wB mp v p (wac ms mp v p * msh (vS ms).1 (mp.2.1 p) (v p / 2)) = hd (dW id s f) v (p + 1) * s.1 (v (mp.1 - 1) / 2) 1 := by
  have hn : r.2.2 = mp.1 := by rw [hR]; rfl
  intro p
  induction p with
  | zero =>
    intro hp
    have h0 := okV_st hok 0 hp
    have hl := okV_st hok (mp.1 - 1) (by omega)
    have hn6 := hr.1
    rw [wB_sho hr hH hS hR hp (by omega) (by omega), ← hf 0 _ (by omega) h0.1]
    have he : v 0 % 2 = 0 := by
      by_cases e : v 0 % 2 = 0
      · exact e
      · have := (cbR_o (hok 0 hp).2 e).1
        omega
    show ms.2.1 (9 * (v 0 / 2)) * ms.2.1 (9 * (v (mp.1 - 1) / 2) + 1) * f 0 (v 0 / 2) = 1 * dW id s f 0 0 0 (v 0) * _
    unfold dW
    rw [if_pos rfl, if_pos ⟨he, h0.1⟩, hS.2.1 _ 0 (by omega) (by omega), hS.2.1 _ 1 (by omega) (by omega)]
    show ms.2.1 (9 * (v 0 / 2)) * ms.2.1 (9 * (v (mp.1 - 1) / 2) + 1) * f 0 (v 0 / 2) = 1 * (ms.2.1 (9 * (v 0 / 2) + 0) * f 0 (v 0 / 2)) * ms.2.1 (9 * (v (mp.1 - 1) / 2) + 1)
    rw [Nat.one_mul, Nat.add_zero]
    ac_rfl
  | succ p ih =>
    intro hp
    have h0 := okV_st hok p (by omega)
    have h1 := okV_st hok (p + 1) hp
    have hn6 := hr.1
    rw [wB_sho hr hH hS hR hp (by omega) (by omega), ← hf (p + 1) _ (by omega) h1.1]
    show wD ms v mp.1 (wE v mp.1 p) p (wC ms v (wE v mp.1 p) p (wB mp v p (wac ms mp v p * msh (vS ms).1 (mp.2.1 p) (v p / 2)))) * f (p + 1) (v (p + 1) / 2) = hd (dW id s f) v (p + 1) * dW id s f (p + 1) (if p + 1 = 0 then 0 else sty v p) (if p + 1 = 0 then 0 else v p / 2) (v (p + 1)) * _
    rw [ih (by omega), if_neg (by omega), if_neg (by omega)]
    unfold wE
    by_cases e : v (p + 1) % 2 = 0
    · rw [if_pos (Or.inr e)]
      rw [dW_ev (by omega) e h1.1]
      unfold wD wC
      rw [if_neg (c := 1 = 0) (by omega), if_neg (c := 1 = 0) (by omega), if_pos hp, hS.2.1 (v p / 2) (1 + sty v p) (by omega) (by omega), hS.2.2 (v p / 2) (v (p + 1) / 2) (by omega) (by omega)]
      show _ = _ * (ms.2.1 (9 * (v p / 2) + (1 + sty v p)) * ms.2.2 (4 * (v p / 2) + v (p + 1) / 2) * f (p + 1) (v (p + 1) / 2)) * _
      rw [← Nat.add_assoc]
      ac_rfl
    · have g := cbR_o (hok _ hp).2 e
      rw [show p + 1 - 1 = p by omega] at g
      rw [if_neg (by omega), dW_od (by omega) e g.2.1.symm g.2.2]
      unfold wD wC
      rw [if_pos rfl, if_pos rfl, g.2.1]
      ac_rfl
theorem wtc_tw {r : hR} {s : hS} {ms : hA} {mp : hP} {f : hG} (hr : okR r) (hH : okH r) (hq : s.2.2 ≤ 4) (hS : relS s ms) (hR : r = vR mp) (hf : ∀ p st, p < r.2.2 → st < s.2.2 → f p st = shoR id s r p st) (hn0 : 0 < r.2.2) {c : Nat} (hc : c < 8 ^ r.2.2) : wtc ms mp c = tw (dW id s f) (fnW id s) r.2.2 r.2.2 0 0 c := by
  have hn : r.2.2 = mp.1 := by rw [hR]; rfl
  have e := tw_hd (D := dW id s f) (fin := fnW id s) hc r.2.2 (by omega) (Nat.le_refl _)
  rw [Nat.sub_self] at e
  have e : tw (dW id s f) (fnW id s) r.2.2 r.2.2 0 0 c = hd (dW id s f) (dgt r.2.2 c) r.2.2 * fnW id s (sty (dgt r.2.2 c) (r.2.2 - 1)) (dgt r.2.2 c (r.2.2 - 1) / 2) := e
  rw [e]
  by_cases hok : okV ms.1 mp.1 (dgt mp.1 c)
  · rw [wtc_y hok]
    rw [← hS.1] at hok
    have e1 := wac_hd hr hH hq hS hR hf hok (mp.1 - 1) (by omega)
    rw [show mp.1 - 1 + 1 = mp.1 by omega] at e1
    have hl := okV_st hok (mp.1 - 1) (by omega)
    rw [show wac ms mp (dgt mp.1 c) mp.1 = wac ms mp (dgt mp.1 c) (mp.1 - 1 + 1) by rw [show mp.1 - 1 + 1 = mp.1 by omega]]
    show wD ms _ mp.1 (wE _ mp.1 (mp.1 - 1)) (mp.1 - 1) (wC ms _ (wE _ mp.1 (mp.1 - 1)) (mp.1 - 1) (wB mp _ (mp.1 - 1) (wac ms mp _ (mp.1 - 1) * msh (vS ms).1 (mp.2.1 (mp.1 - 1)) (dgt mp.1 c (mp.1 - 1) / 2)))) = _
    rw [e1, hn]
    unfold wE
    rw [if_pos (Or.inl (by omega))]
    unfold wD wC fnW
    rw [if_neg (c := 1 = 0) (by omega), if_neg (c := 1 = 0) (by omega), if_neg (by omega), hS.2.1 _ (1 + sty (dgt mp.1 c) (mp.1 - 1)) (by omega) (by omega)]
    show _ = _ * (ms.2.1 (9 * (dgt mp.1 c (mp.1 - 1) / 2) + (1 + sty (dgt mp.1 c) (mp.1 - 1))) * s.1 _ 1)
    rw [← Nat.add_assoc]
    ac_rfl
  · rw [wtc_n hok]
    by_cases h0 : hd (dW id s f) (dgt r.2.2 c) r.2.2 = 0
    · rw [h0, Nat.zero_mul]
    · have := hd_ok r.2.2 (fun i _ => dgt_lt _ _ _) h0
      rw [hn, hS.1] at this
      exact absurd this hok
