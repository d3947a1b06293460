def Agg (n : Nat) (g : Nat → Nat) (B : Nat) (mc : hC) : Prop :=
  mc.1 = 1 ∧ mc.2.1 = sumR g 0 B ∧ mc.2.2.1 = sumR (fun c => if 0 < g c then 1 else 0) 0 B ∧
  (∀ j, j < 24 → mc.2.2.2.1 j = sumR (fun c => if j / 4 < n ∧ dgt n c (j / 4) / 2 = j % 4 then g c else 0) 0 B) ∧
  (∀ j, j < 24 → mc.2.2.2.2.1 j = sumR (fun c => if j / 4 < n ∧ dgt n c (j / 4) = 2 * (j % 4) then g c else 0) 0 B) ∧
  (∀ j, j < 96 → mc.2.2.2.2.2.1 j = sumR (fun c => if j / 16 < n ∧ j / 16 + 1 < n ∧ dgt n c (j / 16) / 2 = j / 4 % 4 ∧ dgt n c (j / 16 + 1) = 2 * (j % 4) then g c else 0) 0 B) ∧
  ∃ L, isTop L (fun x => x.2 < B ∧ 0 < g x.2 ∧ x.1 = g x.2) ∧ L.length = mc.2.2.2.2.2.2.1 ∧ repL n L mc.2.2.2.2.2.2.2.1 mc.2.2.2.2.2.2.2.2
theorem sumR_s (f : Nat → Nat) (B : Nat) : sumR f 0 (B + 1) = sumR f 0 B + f B := by
  show sumR f 0 B + f (0 + B) = _
  rw [Nat.zero_add]
theorem Agg_zero {n : Nat} {g : Nat → Nat} {mc : hC} (h0 : mc.1 = 1) (h1 : mc.2.1 = 0) (h2 : mc.2.2.1 = 0) (h3 : ∀ j, j < 24 → mc.2.2.2.1 j = 0) (h4 : ∀ j, j < 24 → mc.2.2.2.2.1 j = 0) (h5 : ∀ j, j < 96 → mc.2.2.2.2.2.1 j = 0) (h6 : mc.2.2.2.2.2.2.1 = 0) : Agg n g 0 mc :=
  ⟨h0, h1, h2, h3, h4, h5, [], isTop_nil (fun x hx => absurd hx.1 (by omega)), h6.symm, fun j x hx => by simp at hx⟩
theorem Agg_skip1 {n B : Nat} {g : Nat → Nat} {mc : hC} (h : Agg n g B mc) (hg : g B = 0) : Agg n g (B + 1) mc := by
  obtain ⟨h0, h1, h2, h3, h4, h5, L, h6, h7, h8⟩ := h
  refine ⟨h0, by rw [sumR_s, hg]; exact h1, by rw [sumR_s, hg]; exact h2, fun j hj => by rw [sumR_s, hg, ite_self]; exact h3 j hj, fun j hj => by rw [sumR_s, hg, ite_self]; exact h4 j hj, fun j hj => by rw [sumR_s, hg, ite_self]; exact h5 j hj, L, isTop_congr h6 (fun x => ⟨fun q => ⟨by omega, q.2⟩, fun q => ⟨?_, q.2⟩⟩), h7, h8⟩
  have e : x.2 ≠ B := fun e => by have := q.2.1; rw [e] at this; omega
  have := q.1
  omega
theorem Agg_skip {n B : Nat} {g : Nat → Nat} {mc : hC} (h : Agg n g B mc) : ∀ k, (∀ c, B ≤ c → c < B + k → g c = 0) → Agg n g (B + k) mc
  | 0, _ => h
  | k + 1, hg => Agg_skip1 (Agg_skip h k (fun c h1 h2 => hg c h1 (by omega))) (hg (B + k) (by omega) (by omega))
theorem Agg_to {n B C : Nat} {g : Nat → Nat} {mc : hC} (h : Agg n g B mc) (hBC : B ≤ C) (hg : ∀ c, B ≤ c → c < C → g c = 0) : Agg n g C mc := by
  have := Agg_skip h (C - B) (fun c h1 h2 => hg c h1 (by omega))
  rw [show B + (C - B) = C by omega] at this
  exact this
theorem Agg_add {n B r : Nat} {g vd : Nat → Nat} {mc : hC} {kw1 : Nat → Nat} {ky1 : Nat → Int32} (hn : n ≤ 6) (h : Agg n g B mc) (hB : 0 < g B) (hv : ∀ i, i < n → dgt n B i = vd i) (hr : r ≤ mc.2.2.2.2.2.2.1) (h1 : r = 0 ∨ g B ≤ mc.2.2.2.2.2.2.2.1 (r - 1)) (h2 : ∀ j, r ≤ j → j < mc.2.2.2.2.2.2.1 → mc.2.2.2.2.2.2.2.1 j < g B) (hs : shf mc.2.2.2.2.2.2.1 r mc.2.2.2.2.2.2.2.1 mc.2.2.2.2.2.2.2.2 kw1 ky1) (hw : kw1 r = g B) (hy : ∀ p, p < n → ky1 (6 * r + p) = nI (vd p)) :
    Agg n g (B + 1) (mc.1, mc.2.1 + g B, mc.2.2.1 + 1, adS vd (g B) n mc.2.2.2.1, adB vd (g B) n mc.2.2.2.2.1, adP vd n (g B) n mc.2.2.2.2.2.1, (if mc.2.2.2.2.2.2.1 < 10 then mc.2.2.2.2.2.2.1 + 1 else 10), kw1, ky1) := by
  obtain ⟨g0, g1, g2, g3, g4, g5, L, g6, g7, g8⟩ := h
  refine ⟨g0, by rw [sumR_s, ← g1], by rw [sumR_s, ← g2, if_pos hB], fun j hj => ?_, fun j hj => ?_, fun j hj => ?_, (L.take r ++ (g B, B) :: L.drop r).take 10, ?_, ?_, ?_⟩
  · rw [sumR_s, ← g3 j hj]
    show mc.2.2.2.1 j + _ = _
    congr 1
    exact ite_iff ⟨fun q => ⟨q.1, by rw [hv _ q.1]; exact q.2⟩, fun q => ⟨q.1, by rw [← hv _ q.1]; exact q.2⟩⟩
  · rw [sumR_s, ← g4 j hj]
    show mc.2.2.2.2.1 j + _ = _
    congr 1
    exact ite_iff ⟨fun q => ⟨q.1, by rw [hv _ q.1]; exact q.2⟩, fun q => ⟨q.1, by rw [← hv _ q.1]; exact q.2⟩⟩
  · rw [sumR_s, ← g5 j hj]
    show mc.2.2.2.2.2.1 j + _ = _
    congr 1
    exact ite_iff ⟨fun q => ⟨q.1, q.2.1, by rw [hv _ q.1]; exact q.2.2.1, by rw [hv _ q.2.1]; exact q.2.2.2⟩, fun q => ⟨q.1, q.2.1, by rw [← hv _ q.1]; exact q.2.2.1, by rw [← hv _ q.2.1]; exact q.2.2.2⟩⟩
  · refine isTop_congr (isTop_ins (x := (g B, B)) g6 (by omega) (fun y hy => (g6.2.2.1 y hy).1) (fun y hy => ?_) (fun y hy => ?_)) (fun x => ⟨fun q => ?_, fun q => ?_⟩)
    · rcases h1 with h1 | h1
      · rw [h1] at hy
        simp at hy
      · have hlr : r ≠ 0 := fun e => by rw [e] at hy; simp at hy
        have hp := g6.2.1
        obtain ⟨i, hi, e⟩ := List.mem_iff_getElem.mp hy
        rw [List.length_take] at hi
        rw [List.getElem_take] at e
        have e2 : L[r - 1]? = some (L[r - 1]'(by omega)) := List.getElem?_eq_getElem (by omega)
        have e3 := (g8 (r - 1) _ e2).1
        rw [e3] at h1
        rcases Nat.lt_or_ge i (r - 1) with q | q
        · have := List.pairwise_iff_getElem.mp hp i (r - 1) (by omega) (by omega) q
          rw [e] at this
          unfold bt2 at this
          show g B ≤ y.1
          omega
        · obtain rfl : i = r - 1 := by omega
          rw [e] at h1
          exact h1
    · obtain ⟨i, hi, e⟩ := List.mem_iff_getElem.mp hy
      rw [List.length_drop] at hi
      rw [List.getElem_drop] at e
      have e2 : L[r + i]? = some y := by rw [List.getElem?_eq_getElem (by omega), e]
      have e3 := (g8 (r + i) _ e2).1
      have e4 := h2 (r + i) (by omega) (by omega)
      rw [e3] at e4
      exact e4
    · rcases q with q | rfl
      · exact ⟨by omega, q.2⟩
      · exact ⟨Nat.lt_succ_self B, hB, rfl⟩
    · by_cases e : x.2 = B
      · right
        have q3 := q.2.2
        rw [e] at q3
        exact Prod.ext q3 e
      · left
        exact ⟨by have := q.1; omega, q.2⟩
  · show _ = if mc.2.2.2.2.2.2.1 < 10 then mc.2.2.2.2.2.2.1 + 1 else 10
    have := g6.1
    rw [List.length_take, List.length_append, List.length_cons, List.length_take, List.length_drop]
    split <;> omega
  · refine repL_ins hn g8 (by omega) (by rw [g7]; exact hs) hw (fun p hp => ?_)
    show ky1 (6 * r + p) = nI (dgt n B p)
    rw [hy p hp, hv p hp]
def okV_dec (q n : Nat) (v : Nat → Nat) : Decidable (okV q n v) := Nat.decidableBallLT n (fun i _ => v i < 8 ∧ cbR q v i (v i) = 1)
def wtc (ms : hA) (mp : hP) (c : Nat) : Nat := @ite Nat (okV ms.1 mp.1 (dgt mp.1 c)) (okV_dec ms.1 mp.1 (dgt mp.1 c)) (wac ms mp (dgt mp.1 c) mp.1) 0
theorem wtc_n {ms : hA} {mp : hP} {c : Nat} (h : ¬ okV ms.1 mp.1 (dgt mp.1 c)) : wtc ms mp c = 0 := @if_neg _ (okV_dec _ _ _) h _ _ _
theorem wtc_y {ms : hA} {mp : hP} {c : Nat} (h : okV ms.1 mp.1 (dgt mp.1 c)) : wtc ms mp c = wac ms mp (dgt mp.1 c) mp.1 := @if_pos _ (okV_dec _ _ _) h _ _ _
theorem wac_le {ms : hA} {mp : hP} {vd : Nat → Nat} (hw : ∀ i, ms.2.1 i ≤ 4) (hm : ∀ i, ms.2.2 i ≤ 4) : ∀ p, wac ms mp vd p ≤ 16 * 256 ^ p
  | 0 => by
    have := Nat.mul_le_mul (hw (9 * (vd 0 / 2))) (hw (9 * (vd (mp.1 - 1) / 2) + 1))
    show _ * _ ≤ 16 * 1
    omega
  | p + 1 => by
    have h := wac_le (mp := mp) (vd := vd) hw hm p
    have h1 := msh_le (f := (vS ms).1) (fun i j => hw (9 * i + j)) (mp.2.1 p) (vd p / 2)
    have h2 := Nat.mul_le_mul h h1
    have h3 : wB mp vd p (wac ms mp vd p * msh (vS ms).1 (mp.2.1 p) (vd p / 2)) ≤ 16 * 256 ^ p * 16 := by
      unfold wB
      split <;> omega
    have h4 : wC ms vd (wE vd mp.1 p) p (wB mp vd p (wac ms mp vd p * msh (vS ms).1 (mp.2.1 p) (vd p / 2))) ≤ 16 * 256 ^ p * 16 * 4 := by
      unfold wC
      split
      · omega
      · exact Nat.mul_le_mul h3 (hw _)
    show wD _ _ _ _ _ _ ≤ _
    rw [Nat.pow_succ]
    unfold wD
    split
    · omega
    · split
      · refine Nat.le_trans (Nat.mul_le_mul h4 (hm _)) ?_
        omega
      · omega
theorem wac_congr {ms : hA} {mp : hP} {u v : Nat → Nat} (h : ∀ i, i < mp.1 → u i = v i) : ∀ {p : Nat}, p ≤ mp.1 → 0 < mp.1 → wac ms mp u p = wac ms mp v p
  | 0, _, h0 => by
    show ms.2.1 (9 * (u 0 / 2)) * ms.2.1 (9 * (u (mp.1 - 1) / 2) + 1) = ms.2.1 (9 * (v 0 / 2)) * ms.2.1 (9 * (v (mp.1 - 1) / 2) + 1)
    rw [h 0 h0, h (mp.1 - 1) (by omega)]
  | p + 1, hp, h0 => by
    have e1 : wE u mp.1 p = wE v mp.1 p := by
      unfold wE
      by_cases e : p + 1 = mp.1
      · rw [if_pos (Or.inl e), if_pos (Or.inl e)]
      · rw [h (p + 1) (by omega)]
    have e2 := sty_congr (u := u) (v := v) (p := p) (fun i hi => h i (by omega))
    have e3 : wD ms u mp.1 (wE v mp.1 p) p = wD ms v mp.1 (wE v mp.1 p) p := by
      funext a
      unfold wD
      by_cases e : p + 1 < mp.1
      · rw [if_pos e, if_pos e, h p (by omega), h (p + 1) e]
      · rw [if_neg e, if_neg e]
    show wD ms u mp.1 (wE u mp.1 p) p (wC ms u (wE u mp.1 p) p (wB mp u p (wac ms mp u p * msh (vS ms).1 (mp.2.1 p) (u p / 2)))) = wD ms v mp.1 (wE v mp.1 p) p (wC ms v (wE v mp.1 p) p (wB mp v p (wac ms mp v p * msh (vS ms).1 (mp.2.1 p) (v p / 2))))
    rw [e1, e3, wac_congr h (p := p) (by omega) h0]
    unfold wC wB
    rw [e2, h p (by omega)]
