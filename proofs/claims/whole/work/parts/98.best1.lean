def lst (L : hL) : List (Nat × Nat) := (List.range L.2.2).map (fun i => (L.1 i, L.2.1 i))
theorem lst_len (L : hL) : (lst L).length = L.2.2 := by
  unfold lst
  rw [List.length_map, List.length_range]
theorem lst_at {L : hL} {i : Nat} (h : i < L.2.2) : (lst L)[i]? = some (L.1 i, L.2.1 i) := by
  unfold lst
  rw [List.getElem?_map, List.getElem?_range h]
  rfl
theorem lst_out {L : hL} {i : Nat} (h : L.2.2 ≤ i) : (lst L)[i]? = none := List.getElem?_eq_none (by rw [lst_len]; exact h)
theorem lst_mem {L : hL} {z : Nat × Nat} : z ∈ lst L ↔ ∃ i, i < L.2.2 ∧ z = (L.1 i, L.2.1 i) := by
  unfold lst
  rw [List.mem_map]
  constructor
  · rintro ⟨i, hi, e⟩
    exact ⟨i, List.mem_range.mp hi, e.symm⟩
  · rintro ⟨i, hi, e⟩
    exact ⟨i, List.mem_range.mpr hi, e.symm⟩
theorem lst_pair {L : hL} {i j : Nat} (h : (lst L).Pairwise bt2) (hij : i < j) (hj : j < L.2.2) : bt2 (L.1 i, L.2.1 i) (L.1 j, L.2.1 j) := by
  have h2 := List.pairwise_iff_getElem.mp h i j (by rw [lst_len]; omega) (by rw [lst_len]; omega) hij
  have e1 := lst_at (L := L) (i := i) (by omega)
  have e2 := lst_at (L := L) (i := j) hj
  rw [List.getElem?_eq_getElem (by rw [lst_len]; omega)] at e1 e2
  rw [Option.some.inj e1, Option.some.inj e2] at h2
  exact h2
theorem isTop_ins2 {L : List (Nat × Nat)} {S : Nat × Nat → Prop} {x : Nat × Nat} {r : Nat} (h : isTop L S) (hr : r ≤ L.length) (h1 : ∀ y, y ∈ L.take r → bt2 y x) (h2 : ∀ y, y ∈ L.drop r → bt2 x y) :
    isTop ((L.take r ++ x :: L.drop r).take 10) (fun z => S z ∨ z = x) := by
  obtain ⟨hl, hp, hS, hC⟩ := h
  have hp' := hp
  rw [← List.take_append_drop r L] at hp'
  obtain ⟨p1, p2, p3⟩ := List.pairwise_append.mp hp'
  have hM : (L.take r ++ x :: L.drop r).Pairwise bt2 := by
    refine List.pairwise_append.mpr ⟨p1, List.pairwise_cons.mpr ⟨fun y hy => h2 y hy, p2⟩, fun a ha b hb => ?_⟩
    rcases List.mem_cons.mp hb with rfl | hb
    · exact h1 a ha
    · exact p3 a ha b hb
  have hmem : ∀ z, z ∈ L.take r ++ x :: L.drop r ↔ z ∈ L ∨ z = x := by
    intro z
    rw [List.mem_append, List.mem_cons]
    conv => rhs; rw [← List.take_append_drop r L, List.mem_append]
    constructor
    · rintro (q | q | q)
      · exact Or.inl (Or.inl q)
      · exact Or.inr q
      · exact Or.inl (Or.inr q)
    · rintro ((q | q) | q)
      · exact Or.inl q
      · exact Or.inr (Or.inr q)
      · exact Or.inr (Or.inl q)
  refine ⟨by rw [List.length_take]; omega, hM.sublist (List.take_sublist _ _), fun z hz => ?_, fun z hz => ?_⟩
  · rcases (hmem z).mp (List.mem_of_mem_take hz) with q | q
    · exact Or.inl (hS z q)
    · exact Or.inr q
  · rcases hz with hz | rfl
    · rcases hC z hz with q | ⟨q, g⟩
      · exact take_top hM ((hmem z).mpr (Or.inl q))
      · have hlen : (L.take r ++ x :: L.drop r).length = 11 := by
          rw [List.length_append, List.length_cons, List.length_take, List.length_drop]
          omega
        refine Or.inr ⟨by rw [List.length_take, hlen]; rfl, fun y hy => ?_⟩
        rcases (hmem y).mp (List.mem_of_mem_take hy) with u | u
        · exact g y u
        · subst u
          rcases Nat.lt_or_ge r 10 with e | e
          · have hd : 0 < (L.drop r).length := by rw [List.length_drop]; omega
            obtain ⟨b, hb⟩ := List.exists_mem_of_length_pos hd
            exact bt2_trans (h2 b hb) (g b (List.mem_of_mem_drop hb))
          · obtain rfl : r = 10 := by omega
            rw [List.take_append_of_le_length (by rw [List.length_take]; omega)] at hy
            exact g y (List.mem_of_mem_take (List.mem_of_mem_take hy))
    · exact take_top hM ((hmem z).mpr (Or.inr rfl))
theorem pos_ahead {L : hL} {x y p : Nat} (h : (lst L).Pairwise bt2) (hnew : ∀ z, z ∈ lst L → z.2 ≠ y) (hp : isPos L x y p) : ∀ i, i < p → bt2 (L.1 i, L.2.1 i) (x, y) := by
  intro i hi
  obtain ⟨h1, h2, h3, h4⟩ := hp
  have hl : bt2 (L.1 (p - 1), L.2.1 (p - 1)) (x, y) := by
    have hne := hnew (L.1 (p - 1), L.2.1 (p - 1)) (lst_mem.mpr ⟨p - 1, by omega, rfl⟩)
    have hne : L.2.1 (p - 1) ≠ y := hne
    rcases h3 with h3 | h3
    · omega
    · show x < L.1 (p - 1) ∨ (x = L.1 (p - 1) ∧ L.2.1 (p - 1) < y)
      have h3 : ¬ (L.1 (p - 1) < x ∨ (x = L.1 (p - 1) ∧ y < L.2.1 (p - 1))) := h3
      omega
  rcases Nat.lt_or_ge i (p - 1) with q | q
  · exact bt2_trans (lst_pair h q (by omega)) hl
  · obtain rfl : i = p - 1 := by omega
    exact hl
theorem off_top {L L1 : hL} {S : Nat × Nat → Prop} {x y p : Nat} (h : isTop (lst L) S) (hnew : ∀ z, z ∈ lst L → z.2 ≠ y) (hp : isPos L x y p) (ho : okOff L L1 x y p) : isTop (lst L1) (fun z => S z ∨ z = (x, y)) := by
  have ha := pos_ahead h.2.1 hnew hp
  obtain ⟨h1, h2, h3, h4⟩ := hp
  have e : lst L1 = ((lst L).take p ++ (x, y) :: (lst L).drop p).take 10 := by
    have hlen := lst_len L
    have hlr : ((lst L).take p).length = p := by rw [List.length_take]; omega
    have hl10 := h.1
    refine List.ext_getElem? (fun i => ?_)
    rw [List.getElem?_take]
    rcases Nat.lt_or_ge i L1.2.2 with q | q
    · rw [lst_at q, if_pos (by have := ho.1; omega)]
      obtain ⟨o1, o2⟩ := ho.2 i q
      rw [o1, o2]
      have hsz := ho.1
      rcases Nat.lt_trichotomy i p with g | g | g
      · rw [if_pos g, if_pos g, List.getElem?_append_left (by omega), List.getElem?_take_of_lt g, lst_at (by omega)]
      · subst g
        rw [if_neg (c := i < i) (by omega), if_neg (c := i < i) (by omega), if_pos rfl, if_pos rfl, List.getElem?_append_right (by omega), hlr, Nat.sub_self]
        rfl
      · rw [if_neg (c := i < p) (by omega), if_neg (c := i < p) (by omega), if_neg (c := i = p) (by omega), if_neg (c := i = p) (by omega), List.getElem?_append_right (by omega), hlr, show i - p = (i - 1 - p) + 1 by omega, List.getElem?_cons_succ, List.getElem?_drop, show p + (i - 1 - p) = i - 1 by omega, lst_at (by omega)]
    · rw [lst_out q]
      have hsz := ho.1
      split
      · rw [List.getElem?_eq_none]
        rw [List.length_append, List.length_cons, List.length_take, List.length_drop]
        omega
      · rfl
  rw [e]
  refine isTop_ins2 h (by rw [lst_len]; exact h1) (fun z hz => ?_) (fun z hz => ?_)
  · obtain ⟨i, hi, e⟩ := List.mem_iff_getElem.mp hz
    rw [List.length_take] at hi
    have e2 : (lst L)[i]? = some z := by
      rw [← e, List.getElem_take, List.getElem?_eq_getElem]
    rw [lst_at (by omega)] at e2
    rw [← Option.some.inj e2]
    exact ha i (by omega)
  · obtain ⟨i, hi, e⟩ := List.mem_iff_getElem.mp hz
    rw [List.length_drop, lst_len] at hi
    have e2 : (lst L)[p + i]? = some z := by
      rw [← e, List.getElem_drop, List.getElem?_eq_getElem]
    rw [lst_at (by omega)] at e2
    rw [← Option.some.inj e2]
    have := h2 (p + i) (by omega) (by omega)
    show L.1 (p + i) < x ∨ (L.1 (p + i) = x ∧ y < L.2.1 (p + i))
    have : L.1 (p + i) < x ∨ (x = L.1 (p + i) ∧ y < L.2.1 (p + i)) := this
    omega
theorem off_ref {L : hL} {S : Nat × Nat → Prop} {x y p : Nat} (h : isTop (lst L) S) (hnew : ∀ z, z ∈ lst L → z.2 ≠ y) (hp : isPos L x y p) (hp10 : 10 ≤ p) : (lst L).length = 10 ∧ ∀ z, z ∈ lst L → bt2 z (x, y) := by
  have ha := pos_ahead h.2.1 hnew hp
  have h1 := hp.1
  have h2 := h.1
  rw [lst_len] at h2
  refine ⟨by rw [lst_len]; omega, fun z hz => ?_⟩
  obtain ⟨i, hi, rfl⟩ := lst_mem.mp hz
  exact ha i (by omega)
theorem top_sub {L M : List (Nat × Nat)} {S S2 : Nat × Nat → Prop} (hM : isTop M S2) (hL : isTop L (fun z => S z ∨ z ∈ M)) : isTop L (fun z => S z ∨ S2 z) := by
  obtain ⟨l1, l2, l3, l4⟩ := hL
  refine ⟨l1, l2, fun z hz => (l3 z hz).imp id (fun q => hM.2.2.1 z q), fun z hz => ?_⟩
  rcases hz with hz | hz
  · exact l4 z (Or.inl hz)
  · rcases hM.2.2.2 z hz with q | ⟨q, g⟩
    · exact l4 z (Or.inr q)
    · by_cases hall : ∀ m, m ∈ M → m ∈ L
      · have hpos : ∀ j, (hj : j < M.length) → ∃ i, j ≤ i ∧ L[i]? = some M[j] := by
          intro j
          induction j with
          | zero =>
            intro hj
            obtain ⟨i, hi⟩ := List.mem_iff_getElem?.mp (hall M[0] (List.getElem_mem hj))
            exact ⟨i, Nat.zero_le _, hi⟩
          | succ j ih =>
            intro hj
            obtain ⟨i, hi1, hi2⟩ := ih (by omega)
            obtain ⟨k, hk⟩ := List.mem_iff_getElem?.mp (hall M[j + 1] (List.getElem_mem hj))
            refine ⟨k, ?_, hk⟩
            have hb := List.pairwise_iff_getElem.mp hM.2.1 j (j + 1) (by omega) hj (by omega)
            obtain ⟨ki, ke⟩ := List.getElem?_eq_some_iff.mp hk
            obtain ⟨ii, ie⟩ := List.getElem?_eq_some_iff.mp hi2
            rcases Nat.lt_trichotomy i k with u | u | u
            · omega
            · exfalso
              subst u
              rw [ie] at ke
              rw [ke] at hb
              exact bt2_irr hb
            · exfalso
              have hb2 := List.pairwise_iff_getElem.mp l2 k i ki ii u
              rw [ke, ie] at hb2
              exact bt2_asym hb hb2
        obtain ⟨i, hi1, hi2⟩ := hpos 9 (by omega)
        obtain ⟨ii, ie⟩ := List.getElem?_eq_some_iff.mp hi2
        right
        refine ⟨by omega, fun y hy => ?_⟩
        have hb9 := g M[9] (List.getElem_mem _)
        obtain ⟨k, hk⟩ := List.mem_iff_getElem?.mp hy
        obtain ⟨ki, ke⟩ := List.getElem?_eq_some_iff.mp hk
        rcases Nat.lt_or_ge k i with u | u
        · have hb2 := List.pairwise_iff_getElem.mp l2 k i ki ii u
          rw [ke, ie] at hb2
          exact bt2_trans hb2 hb9
        · obtain rfl : k = i := by omega
          rw [ie] at ke
          rw [← ke]
          exact hb9
      · obtain ⟨m, hm⟩ := Classical.not_forall.mp hall
        obtain ⟨hm1, hm2⟩ := Classical.not_imp.mp hm
        rcases l4 m (Or.inr hm1) with u | ⟨u, v⟩
        · exact absurd u hm2
        · exact Or.inr ⟨u, fun y hy => bt2_trans (v y hy) (g m hm1)⟩
theorem isTop_map {L : List (Nat × Nat)} {S : Nat × Nat → Prop} {fa ah : Nat} (hf : 0 < fa) (h : isTop L S) : isTop (L.map (fun w => (fa * w.1, ah + w.2))) (fun z => ∃ w, S w ∧ z = (fa * w.1, ah + w.2)) := by
  have hm : ∀ a b : Nat × Nat, bt2 a b → bt2 (fa * a.1, ah + a.2) (fa * b.1, ah + b.2) := by
    intro a b hab
    show fa * b.1 < fa * a.1 ∨ (fa * b.1 = fa * a.1 ∧ ah + a.2 < ah + b.2)
    rcases hab with q | ⟨q, g⟩
    · exact Or.inl (Nat.mul_lt_mul_of_pos_left q hf)
    · exact Or.inr ⟨by rw [q], by omega⟩
  obtain ⟨h1, h2, h3, h4⟩ := h
  refine ⟨by rw [List.length_map]; exact h1, List.pairwise_map.mpr (h2.imp (fun {a b} hab => hm a b hab)), fun z hz => ?_, fun z hz => ?_⟩
  · obtain ⟨w, hw, rfl⟩ := List.mem_map.mp hz
    exact ⟨w, h3 w hw, rfl⟩
  · obtain ⟨w, hw, rfl⟩ := hz
    rcases h4 w hw with q | ⟨q, g⟩
    · exact Or.inl (List.mem_map.mpr ⟨w, q, rfl⟩)
    · refine Or.inr ⟨by rw [List.length_map]; exact q, fun y hy => ?_⟩
      obtain ⟨v, hv, rfl⟩ := List.mem_map.mp hy
      exact hm v w (g v hv)
theorem step_top {Lf L0 : hL} {fa ah : Nat} {S S2 : Nat × Nat → Prop} (hLf : isTop (lst Lf) S2) (h0 : isTop (lst L0) S) (hnew : ∀ z w, S z → S2 w → z.2 ≠ ah + w.2) (hor : ∀ w, S2 w → ah ||| w.2 = ah + w.2) (hb2 : ∀ w, S2 w → fa * w.1 < 2 ^ 63 ∧ ah + w.2 < 2 ^ 31) (hb : ∀ z, S z → z.1 < 2 ^ 63 ∧ z.2 < 2 ^ 31) (hinj : ∀ w v, S2 w → S2 v → w.2 = v.2 → w = v) (hpos : ∀ w, S2 w → 0 < w.1) :
    ∃ I : Nat → hL → Prop, I 0 L0 ∧ Lf.2.2 ≤ 10 ∧ okStep Lf fa ah I ∧ ∀ L1, I Lf.2.2 L1 → isTop (lst L1) (fun z => S z ∨ ∃ w, S2 w ∧ 0 < fa ∧ z = (fa * w.1, ah + w.2)) := by
  have hsz : Lf.2.2 ≤ 10 := by rw [← lst_len]; exact hLf.1
  have hel : ∀ i, i < Lf.2.2 → S2 (Lf.1 i, Lf.2.1 i) := fun i hi => hLf.2.2.1 _ (lst_mem.mpr ⟨i, hi, rfl⟩)
  have hbL : ∀ {T : Nat × Nat → Prop} {L : hL}, isTop (lst L) T → (∀ z, T z → z.1 < 2 ^ 63 ∧ z.2 < 2 ^ 31) → (∀ j, j < L.2.2 → L.1 j < 2 ^ 63) ∧ (∀ j, j < L.2.2 → L.2.1 j < 2 ^ 31) ∧ L.2.2 ≤ 10 := by
    intro T L hT hbT
    refine ⟨fun j hj => (hbT _ (hT.2.2.1 _ (lst_mem.mpr ⟨j, hj, rfl⟩))).1, fun j hj => (hbT _ (hT.2.2.1 _ (lst_mem.mpr ⟨j, hj, rfl⟩))).2, ?_⟩
    rw [← lst_len]
    exact hT.1
  rcases Nat.eq_zero_or_pos fa with rfl | hfa
  · refine ⟨fun _ L => isTop (lst L) S, h0, hsz, fun i L hi hI => ?_, fun L1 h1 => isTop_congr h1 (fun z => ⟨Or.inl, fun q => q.elim id (fun ⟨w, _, hw, _⟩ => absurd hw (Nat.lt_irrefl _))⟩)⟩
    have e1 := hb2 _ (hel i hi)
    have e2 := hor _ (hel i hi)
    have e2 : ah ||| Lf.2.1 i = ah + Lf.2.1 i := e2
    obtain ⟨b1, b2, b3⟩ := hbL hI hb
    refine ⟨e1.1, by rw [e2]; exact e1.2, b1, b2, b3, fun _ => hI, fun p L1 hp _ _ => ?_⟩
    exfalso
    have := hp.2.2.2
    rw [Nat.zero_mul] at this
    omega
  · have hM := isTop_map (ah := ah) hfa hLf
    have hMat : ∀ i, i < Lf.2.2 → ((lst Lf).map (fun w => (fa * w.1, ah + w.2)))[i]? = some (fa * Lf.1 i, ah + Lf.2.1 i) := by
      intro i hi
      rw [List.getElem?_map, lst_at hi]
      rfl
    have hMlen : ((lst Lf).map (fun w => (fa * w.1, ah + w.2))).length = Lf.2.2 := by rw [List.length_map, lst_len]
    refine ⟨fun i L => isTop (lst L) (fun z => S z ∨ z ∈ ((lst Lf).map (fun w => (fa * w.1, ah + w.2))).take i), ?_, hsz, fun i L hi hI => ?_, fun L1 h1 => ?_⟩
    · exact isTop_congr h0 (fun z => ⟨Or.inl, fun q => q.elim id (fun g => by simp at g)⟩)
    · have e1 := hb2 _ (hel i hi)
      have e2 := hor _ (hel i hi)
      have e2 : ah ||| Lf.2.1 i = ah + Lf.2.1 i := e2
      have e1 : fa * Lf.1 i < 2 ^ 63 ∧ ah + Lf.2.1 i < 2 ^ 31 := e1
      have hT : ∀ z, (S z ∨ z ∈ ((lst Lf).map (fun w => (fa * w.1, ah + w.2))).take i) → z.1 < 2 ^ 63 ∧ z.2 < 2 ^ 31 := by
        rintro z (q | q)
        · exact hb z q
        · obtain ⟨w, hw, rfl⟩ := List.mem_map.mp (List.mem_of_mem_take q)
          exact hb2 w (hLf.2.2.1 w hw)
      obtain ⟨b1, b2, b3⟩ := hbL hI hT
      have hnw : ∀ z, z ∈ lst L → z.2 ≠ ah + Lf.2.1 i := by
        intro z hz
        rcases hI.2.2.1 z hz with q | q
        · exact hnew z _ q (hel i hi)
        · obtain ⟨j, hj, e⟩ := List.mem_iff_getElem.mp q
          rw [List.length_take, hMlen] at hj
          have e3 := hMat j (by omega)
          rw [List.getElem_take] at e
          rw [List.getElem?_eq_getElem (by omega), e] at e3
          rw [Option.some.inj e3]
          intro h9
          have h9 : ah + Lf.2.1 j = ah + Lf.2.1 i := h9
          have h8 := hinj _ _ (hel j (by omega)) (hel i hi) (show Lf.2.1 j = Lf.2.1 i by omega)
          have h7 := lst_pair hLf.2.1 (show j < i by omega) hi
          rw [h8] at h7
          exact bt2_irr h7
      rw [e2]
      refine ⟨e1.1, e1.2, b1, b2, b3, fun hrj => ?_, fun p L1 hp hp10 ho => ?_⟩
      · rcases hrj with q | ⟨p, hp, hp10⟩
        · exfalso
          have := Nat.mul_pos hfa (hpos _ (hel i hi))
          have : 0 < fa * Lf.1 i := this
          omega
        · obtain ⟨r1, r2⟩ := off_ref hI hnw hp hp10
          refine ⟨hI.1, hI.2.1, fun z hz => ?_, fun z hz => ?_⟩
          · rcases hI.2.2.1 z hz with q | q
            · exact Or.inl q
            · refine Or.inr ?_
              rw [show Lf.2.2 = ((lst Lf).map (fun w => (fa * w.1, ah + w.2))).length from hMlen.symm, List.take_length]
              exact List.mem_of_mem_take q
          · rcases hz with q | q
            · exact hI.2.2.2 z (Or.inl q)
            · obtain ⟨j, hj, e⟩ := List.mem_iff_getElem.mp q
              rw [List.length_take, hMlen] at hj
              rw [List.getElem_take] at e
              have e3 := hMat j (by omega)
              rw [List.getElem?_eq_getElem (by omega), e] at e3
              rcases Nat.lt_or_ge j i with u | u
              · refine hI.2.2.2 z (Or.inr ?_)
                refine List.mem_iff_getElem.mpr ⟨j, by rw [List.length_take, hMlen]; omega, ?_⟩
                rw [List.getElem_take, e]
              · refine Or.inr ⟨r1, fun y hy => ?_⟩
                rcases Nat.lt_or_ge i j with v | v
                · have h7 := List.pairwise_iff_getElem.mp hM.2.1 i j (by omega) (by omega) v
                  have e4 := hMat i hi
                  rw [List.getElem?_eq_getElem (by omega)] at e4
                  rw [e, Option.some.inj e4] at h7
                  exact bt2_trans (r2 y hy) h7
                · obtain rfl : j = i := by omega
                  rw [Option.some.inj e3]
                  exact r2 y hy
      · refine isTop_congr (off_top hI hnw hp ho) (fun z => ?_)
        rw [List.take_add_one, hMat i hi]
        show ((S z ∨ _) ∨ _) ↔ (S z ∨ z ∈ _ ++ [(fa * Lf.1 i, ah + Lf.2.1 i)])
        rw [List.mem_append, List.mem_singleton, or_assoc]
    · have h1 : isTop (lst L1) (fun z => S z ∨ z ∈ ((lst Lf).map (fun w => (fa * w.1, ah + w.2))).take Lf.2.2) := h1
      rw [show Lf.2.2 = ((lst Lf).map (fun w => (fa * w.1, ah + w.2))).length from hMlen.symm, List.take_length] at h1
      refine isTop_congr (top_sub hM h1) (fun z => ⟨fun q => q.imp id (fun ⟨w, hw, e⟩ => ⟨w, hw, hfa, e⟩), fun q => q.imp id (fun ⟨w, hw, _, e⟩ => ⟨w, hw, e⟩)⟩)
