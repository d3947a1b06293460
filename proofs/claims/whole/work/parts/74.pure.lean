theorem sum2_congr {T T' : Nat → Nat → Nat} {q : Nat} (h : ∀ b c, b < q → c < q → T b c = T' b c) : sum2 T q = sum2 T' q := by
  unfold sum2
  refine sumR_congr (fun b hb => ?_)
  exact sumR_congr (fun c hc => h _ _ (by omega) (by omega))
theorem maxR_congr {f g : Nat → Nat} {x : Nat} : ∀ {m : Nat}, (∀ i, i < m → f i = g i) → maxR f x 0 m = maxR g x 0 m
  | 0, _ => rfl
  | m + 1, h => by rw [maxR_s, maxR_s, h m (by omega), maxR_congr (m := m) (fun i hi => h i (by omega))]
theorem max2_congr {T T' : Nat → Nat → Nat} {x q : Nat} : ∀ {m : Nat}, (∀ b c, b < m → c < q → T b c = T' b c) → max2 T x q m = max2 T' x q m
  | 0, _ => rfl
  | m + 1, h => by
    show maxR (T m) (max2 T x q m) 0 q = maxR (T' m) (max2 T' x q m) 0 q
    rw [max2_congr (m := m) (fun b c hb hc => h b c (by omega) hc)]
    exact maxR_congr (fun i hi => h m i (by omega) hi)
theorem fS_congr {k : hK} {su su' : hG} {lf kd i j : Nat} (h : ∀ kk l, kk < k.2.2 → su kk l = su' kk l) (e : Nat) : fS k su lf kd i j e = fS k su' lf kd i j e := by
  unfold fS
  congr 1
  refine sumR_congr (fun y _ => sum2_congr (fun b c hb hc => ?_))
  unfold tS
  rw [h b _ hb, h c _ hc]
theorem fC_congr {k : hK} {su su' : hG} {lf kd i j : Nat} (h : ∀ kk l, kk < k.2.2 → su kk l = su' kk l) (e : Nat) : fC k su lf kd i j e = fC k su' lf kd i j e := by
  unfold fC
  congr 1
  refine sumR_congr (fun y _ => sum2_congr (fun b c hb hc => ?_))
  unfold tC
  rw [h b _ hb, h c _ hc]
theorem fB_congr {k : hK} {su su' : hG} {lf kd i j : Nat} (h : ∀ kk l, kk < k.2.2 → su kk l = su' kk l) : ∀ e, fB k su lf kd i j e = fB k su' lf kd i j e
  | 0 => rfl
  | e + 1 => by
    rw [fB_succ, fB_succ, fB_congr h e]
    refine max2_congr (fun b c hb hc => ?_)
    unfold tS
    rw [h b _ hb, h c _ hc]
def zf (al : Int32) (i j kk a b x : Nat) : Nat := if a = i ∧ b = j ∧ al ≠ nI 4 ∧ nI kk ≠ al then 0 else x
def invM (k : hK) (r : hR) (al : Int32) (i j : Nat) (su ct be : hG) (D : Nat → Nat → Nat → Prop) : Prop :=
  ∀ kk a b, kk < k.2.2 → a ≤ b → b < r.2.2 → D kk a b → su kk (a * 6 + b) = zf al i j kk a b (fS k su (lfR k r kk a b) kk a b (b - a)) ∧ ct kk (a * 6 + b) = fC k ct (lfR k r kk a b) kk a b (b - a) ∧ be kk (a * 6 + b) = fB k be (lfR k r kk a b) kk a b (b - a) ∧ be kk (a * 6 + b) ≤ 16 * 64 ^ (b - a)
theorem invM_okT {k : hK} {r : hR} {i j : Nat} {su ct be : hG} (h : invM k r (nI 4) i j su ct be (fun _ _ _ => True)) : okT k r su ct be := by
  intro kk a b h1 h2 h3 h4
  have q := h kk a b h1 h2 h3 h4
  unfold zf at q
  rw [if_neg (fun z => z.2.2.1 rfl)] at q
  exact q
theorem invM.mono {k : hK} {r : hR} {al : Int32} {i j : Nat} {su ct be : hG} {D D' : Nat → Nat → Nat → Prop} (h : invM k r al i j su ct be D) (hs : ∀ kk a b, kk < k.2.2 → a ≤ b → b < r.2.2 → D' kk a b → D kk a b) : invM k r al i j su ct be D' := fun kk a b h1 h2 h3 h4 => h kk a b h1 h2 h3 (hs kk a b h1 h2 h3 h4)
theorem invM_congr {k : hK} {r : hR} {al : Int32} {i j : Nat} {su ct be su' ct' be' : hG} {D : Nat → Nat → Nat → Prop} (h : invM k r al i j su' ct' be' D) (h1 : ∀ kk l, kk < k.2.2 → su kk l = su' kk l) (h2 : ∀ kk l, kk < k.2.2 → ct kk l = ct' kk l) (h3 : ∀ kk l, kk < k.2.2 → be kk l = be' kk l) : invM k r al i j su ct be D := by
  intro kk a b q1 q2 q3 q4
  rw [h1 _ _ q1, h2 _ _ q1, h3 _ _ q1, fS_congr h1, fC_congr h2, fB_congr h3]
  exact h kk a b q1 q2 q3 q4
theorem invM_bb {k : hK} {r : hR} {al : Int32} {i0 j0 : Nat} {su ct be : hG} {D : Nat → Nat → Nat → Prop} (h : invM k r al i0 j0 su ct be D) {kd i j : Nat} (hk : okK k) (hn : r.2.2 ≤ 6) (hij : i ≤ j) (hj : j < r.2.2) (hD : ∀ kk a b, kk < k.2.2 → a ≤ b → b < r.2.2 → b - a < j - i → D kk a b) :
    ∀ y a b, y < j - i → a < k.2.2 → b < k.2.2 → tS k.1 be kd (i * 6 + (i + y)) ((i + 1 + y) * 6 + j) a b ≤ 16 * 64 ^ (j - i) := by
  intro y a b hy ha hb
  unfold tS
  have h1 := (h a i (i + y) ha (by omega) (by omega) (hD a i (i + y) ha (by omega) (by omega) (by omega))).2.2.2
  have h2 := (h b (i + 1 + y) j hb (by omega) hj (hD b (i + 1 + y) j hb (by omega) hj (by omega))).2.2.2
  refine tb_le (y := y) (z := j - i - 1 - y) (by omega) (hk.2.1 _ _) ?_ ?_
  · rw [show i + y - i = y by omega] at h1
    exact h1
  · rw [show j - (i + 1 + y) = j - i - 1 - y by omega] at h2
    exact h2
theorem invM_step {k : hK} {r : hR} {al : Int32} {i0 j0 : Nat} {su ct be : hG} {D D' : Nat → Nat → Nat → Prop} {kd i j : Nat} (h : invM k r al i0 j0 su ct be D) (hk : okK k) (hn : r.2.2 ≤ 6) (hij : i ≤ j) (hj : j < r.2.2)
    (hD : ∀ kk a b, kk < k.2.2 → a ≤ b → b < r.2.2 → b - a < j - i → D kk a b) (hs : ∀ kk a b, a ≤ b → D' kk a b → (kk = kd ∧ a = i ∧ b = j) ∨ D kk a b ∧ b - a ≤ j - i ∧ ¬ (kk = kd ∧ a = i ∧ b = j)) :
    invM k r al i0 j0 (up2 su kd (i * 6 + j) (zf al i0 j0 kd i j (fS k su (lfR k r kd i j) kd i j (j - i)))) (up2 ct kd (i * 6 + j) (fC k ct (lfR k r kd i j) kd i j (j - i))) (up2 be kd (i * 6 + j) (fB k be (lfR k r kd i j) kd i j (j - i))) D' := by
  intro kk a b hkk hab hb hd
  rcases hs kk a b hab hd with ⟨rfl, rfl, rfl⟩ | ⟨hd', hsz, hne⟩
  · rw [up2_self, up2_self, up2_self]
    refine ⟨congrArg (zf al i0 j0 kk a b) (fS_up (by omega) (by omega) (Nat.le_refl _) hij).symm, (fC_up (by omega) (by omega) (Nat.le_refl _) hij).symm, (fB_up (by omega) (by omega) (Nat.le_refl _) hij).symm, ?_⟩
    have hz : fB k be (lfR k r kk a b) kk a b (b - a) < 16 * 64 ^ (b - a) + 1 := by
      unfold fB
      refine mxF_lt ?_ (fun y c e hy hc he => Nat.lt_succ_of_le (invM_bb h hk hn hij hj hD y c e hy hc he))
      have := lfR_le (k := k) (r := r) (kd := kk) (i := a) (j := b) hk.2.2
      have := p64' (b - a)
      omega
    omega
  · obtain ⟨e1, e2, e3, e4⟩ := h kk a b hkk hab hb hd'
    have hc : ¬ (kk = kd ∧ a * 6 + b = i * 6 + j) := fun q => hne ⟨q.1, by omega, by omega⟩
    rw [up2_ne hc, up2_ne hc, up2_ne hc, fS_up (by omega) (by omega) hsz hij, fC_up (by omega) (by omega) hsz hij, fB_up (by omega) (by omega) hsz hij]
    exact ⟨e1, e2, e3, e4⟩
theorem vT_up {f : Nat → Nat} {kd a b x kk l : Nat} (hb : b < 6) (hkd : kd < 4) (hkk : kk < 4) : vT (va_up f (24 * a + 4 * b + kd) x) kk l = up2 (vT f) kd (a * 6 + b) x kk l := by
  rw [up2_at]
  show (if 24 * (l / 6) + 4 * (l % 6) + kk = 24 * a + 4 * b + kd then x else vT f kk l) = _
  exact ite_iff ⟨fun q => ⟨by omega, by omega⟩, fun q => by omega⟩
def DD (sz a0 k0 kk a b : Nat) : Prop := b - a + 1 < sz ∨ (b - a + 1 = sz ∧ (a < a0 ∨ (a = a0 ∧ kk < k0)))
def INV (mk : hA) (mp : hP) (al : Int32) (i j : Nat) (mq : hF) (D : Nat → Nat → Nat → Prop) : Prop := invM (vK mk) (vR mp) al i j (vT mq.1) (vT mq.2.1) (vT mq.2.2) D
theorem INV_step {mk : hA} {mp : hP} {al : Int32} {i j sz a0 k0 : Nat} {mq : hF} (h : INV mk mp al i j mq (DD sz a0 k0)) (hk : okK (vK mk)) (hn : mp.1 ≤ 6) (hs1 : 1 ≤ sz) (ha : a0 + sz ≤ mp.1) (hk0 : k0 < mk.1) {S : Nat} (hS : S = zf al i j k0 a0 (a0 + sz - 1) (fS (vK mk) (vT mq.1) (lfR (vK mk) (vR mp) k0 a0 (a0 + sz - 1)) k0 a0 (a0 + sz - 1) (a0 + sz - 1 - a0))) :
    INV mk mp al i j (va_up mq.1 (24 * a0 + 4 * (a0 + sz - 1) + k0) S, va_up mq.2.1 (24 * a0 + 4 * (a0 + sz - 1) + k0) (fC (vK mk) (vT mq.2.1) (lfR (vK mk) (vR mp) k0 a0 (a0 + sz - 1)) k0 a0 (a0 + sz - 1) (a0 + sz - 1 - a0)), va_up mq.2.2 (24 * a0 + 4 * (a0 + sz - 1) + k0) (fB (vK mk) (vT mq.2.2) (lfR (vK mk) (vR mp) k0 a0 (a0 + sz - 1)) k0 a0 (a0 + sz - 1) (a0 + sz - 1 - a0))) (DD sz a0 (k0 + 1)) := by
  have hq : mk.1 ≤ 4 := hk.1
  have hst := invM_step (D' := DD sz a0 (k0 + 1)) (kd := k0) (i := a0) (j := a0 + sz - 1) h hk hn (by omega) (show a0 + sz - 1 < mp.1 by omega) (fun kk a b _ _ _ q => by unfold DD; omega) (fun kk a b hab q => by unfold DD at *; omega)
  rw [← hS] at hst
  have hl : ∀ kk, kk < (vK mk).2.2 → kk < 4 := fun kk q => Nat.lt_of_lt_of_le q hq
  exact invM_congr hst (fun kk l q => vT_up (by omega) (by omega) (hl kk q)) (fun kk l q => vT_up (by omega) (by omega) (hl kk q)) (fun kk l q => vT_up (by omega) (by omega) (hl kk q))
