theorem okT_eq {k k' : hK} {r r' : hR} {su ct be su' ct' be' : hG} (h : okT k r su ct be) (h' : okT k' r' su' ct' be') (hq : k'.2.2 = k.2.2) (hn : r'.2.2 = r.2.2) (hru : ∀ a b c, a < k.2.2 → b < k.2.2 → c < k.2.2 → k.1 a (b * 4 + c) = k'.1 a (b * 4 + c)) (hlf : ∀ kk i, kk < k.2.2 → i < r.2.2 → leaR k kk (r.1 i) = leaR k' kk (r'.1 i)) :
    ∀ m kk a b, b - a < m → kk < k.2.2 → a ≤ b → b < r.2.2 → su kk (a * 6 + b) = su' kk (a * 6 + b) ∧ ct kk (a * 6 + b) = ct' kk (a * 6 + b) ∧ be kk (a * 6 + b) = be' kk (a * 6 + b) := by
  intro m
  induction m with
  | zero => intro kk a b h1; omega
  | succ m ih =>
    intro kk a b hm hkk hab hb
    obtain ⟨e1, e2, e3, -⟩ := h kk a b hkk hab hb trivial
    obtain ⟨g1, g2, g3, -⟩ := h' kk a b (by omega) hab (by omega) trivial
    have hl : lfR k r kk a b = lfR k' r' kk a b := by
      unfold lfR
      split
      · exact hlf kk a hkk (by omega)
      · rfl
    have hL : ∀ y x, y < b - a → x < k.2.2 → _ := fun y x hy hx => ih x a (a + y) (by omega) hx (by omega) (by omega)
    have hR : ∀ y x, y < b - a → x < k.2.2 → _ := fun y x hy hx => ih x (a + 1 + y) b (by omega) hx (by omega) hb
    refine ⟨?_, ?_, ?_⟩
    · rw [e1, g1, ← hl]
      unfold fS
      rw [hq]
      congr 1
      refine sumR_congr (fun y hy => sum2_congr (fun x z hx hz => ?_))
      unfold tS
      rw [Nat.zero_add, (hL y x hy hx).1, (hR y z hy hz).1, hru kk x z hkk hx hz]
    · rw [e2, g2, ← hl]
      unfold fC
      rw [hq]
      congr 1
      refine sumR_congr (fun y hy => sum2_congr (fun x z hx hz => ?_))
      unfold tC
      rw [Nat.zero_add, (hL y x hy hx).2.1, (hR y z hy hz).2.1, hru kk x z hkk hx hz]
    · rw [e3, g3, ← hl]
      have key : ∀ e, e ≤ b - a → fB k be (lfR k r kk a b) kk a b e = fB k' be' (lfR k r kk a b) kk a b e := by
        intro e
        induction e with
        | zero => intro _; rfl
        | succ e ihe =>
          intro he
          rw [fB_succ, fB_succ, ihe (by omega), hq]
          refine max2_congr (fun x z hx hz => ?_)
          unfold tS
          rw [(hL e x (by omega) hx).2.2, (hR e z (by omega) hz).2.2, hru kk x z hkk hx hz]
      exact key _ (Nat.le_refl _)
