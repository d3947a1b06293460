def bt2 (x y : Nat × Nat) : Prop := y.1 < x.1 ∨ (y.1 = x.1 ∧ x.2 < y.2)
theorem bt2_trans {x y z : Nat × Nat} (h : bt2 x y) (g : bt2 y z) : bt2 x z := by
  unfold bt2 at *
  omega
def isTop (L : List (Nat × Nat)) (S : Nat × Nat → Prop) : Prop :=
  L.length ≤ 10 ∧ L.Pairwise bt2 ∧ (∀ x, x ∈ L → S x) ∧ ∀ x, S x → x ∈ L ∨ (L.length = 10 ∧ ∀ y, y ∈ L → bt2 y x)
theorem take_top {M : List (Nat × Nat)} (h : M.Pairwise bt2) {z : Nat × Nat} (hz : z ∈ M) : z ∈ M.take 10 ∨ ((M.take 10).length = 10 ∧ ∀ y, y ∈ M.take 10 → bt2 y z) := by
  rw [← List.take_append_drop 10 M] at h hz
  rcases List.mem_append.mp hz with g | g
  · exact Or.inl g
  · refine Or.inr ⟨?_, fun y hy => (List.pairwise_append.mp h).2.2 y hy z g⟩
    have h1 : 0 < (M.drop 10).length := List.length_pos_of_mem g
    rw [List.length_drop] at h1
    rw [List.length_take]
    omega
theorem isTop_ins {L : List (Nat × Nat)} {S : Nat × Nat → Prop} {x : Nat × Nat} {r : Nat} (h : isTop L S) (hr : r ≤ L.length) (hc : ∀ y, y ∈ L → y.2 < x.2) (h1 : ∀ y, y ∈ L.take r → x.1 ≤ y.1) (h2 : ∀ y, y ∈ L.drop r → y.1 < x.1) :
    isTop ((L.take r ++ x :: L.drop r).take 10) (fun z => S z ∨ z = x) := by
  obtain ⟨hl, hp, hS, hC⟩ := h
  have hp' := hp
  rw [← List.take_append_drop r L] at hp'
  obtain ⟨p1, p2, p3⟩ := List.pairwise_append.mp hp'
  have hM : (L.take r ++ x :: L.drop r).Pairwise bt2 := by
    refine List.pairwise_append.mpr ⟨p1, List.pairwise_cons.mpr ⟨fun y hy => Or.inl (h2 y hy), p2⟩, fun a ha b hb => ?_⟩
    have hax : bt2 a x := by
      have q1 := h1 a ha
      have q2 := hc a (List.mem_of_mem_take ha)
      unfold bt2
      omega
    rcases List.mem_cons.mp hb with rfl | hb
    · exact hax
    · exact p3 a ha b hb
  have hmem : ∀ z, z ∈ L.take r ++ x :: L.drop r ↔ z ∈ L ∨ z = x := by
    intro z
    rw [List.mem_append, List.mem_cons]
    conv => rhs; rw [← List.take_append_drop r L, List.mem_append]
    constructor
    · rintro (q | q | q)
      · exact Or.inl (Or.inl q)
      · exact Or.inr q
      · exact Or.inl (Or.inr q)
    · rintro ((q | q) | q)
      · exact Or.inl q
      · exact Or.inr (Or.inr q)
      · exact Or.inr (Or.inl q)
  refine ⟨by rw [List.length_take]; omega, hM.sublist (List.take_sublist _ _), fun z hz => ?_, fun z hz => ?_⟩
  · rcases (hmem z).mp (List.mem_of_mem_take hz) with q | q
    · exact Or.inl (hS z q)
    · exact Or.inr q
  · rcases hz with hz | rfl
    · rcases hC z hz with q | ⟨q, g⟩
      · exact take_top hM ((hmem z).mpr (Or.inl q))
      · have hlen : (L.take r ++ x :: L.drop r).length = 11 := by
          rw [List.length_append, List.length_cons, List.length_take, List.length_drop]
          omega
        refine Or.inr ⟨by rw [List.length_take, hlen]; rfl, fun y hy => ?_⟩
        rcases (hmem y).mp (List.mem_of_mem_take hy) with u | u
        · exact g y u
        · subst u
          rcases Nat.lt_or_ge r 10 with e | e
          · have hd : 0 < (L.drop r).length := by rw [List.length_drop]; omega
            obtain ⟨b, hb⟩ := List.exists_mem_of_length_pos hd
            exact bt2_trans (Or.inl (h2 b hb)) (g b (List.mem_of_mem_drop hb))
          · obtain rfl : r = 10 := by omega
            rw [List.take_append_of_le_length (by rw [List.length_take]; omega)] at hy
            exact g y (List.mem_of_mem_take (List.mem_of_mem_take hy))
    · exact take_top hM ((hmem z).mpr (Or.inr rfl))
theorem isTop_congr {L : List (Nat × Nat)} {S T : Nat × Nat → Prop} (h : isTop L S) (e : ∀ x, S x ↔ T x) : isTop L T :=
  ⟨h.1, h.2.1, fun x hx => (e x).mp (h.2.2.1 x hx), fun x hx => h.2.2.2 x ((e x).mpr hx)⟩
theorem isTop_nil {S : Nat × Nat → Prop} (h : ∀ x, ¬ S x) : isTop [] S :=
  ⟨by decide, List.Pairwise.nil, fun x hx => (by cases hx), fun x hx => absurd hx (h x)⟩
def dgt (n c i : Nat) : Nat := c / 8 ^ (n - 1 - i) % 8
theorem dgt_lt (n c i : Nat) : dgt n c i < 8 := Nat.mod_lt _ (by omega)
theorem dgt_cod {u : Nat → Nat} {n i : Nat} (hu : ∀ j, j < n → u j < 8) (hi : i < n) : dgt n (cod u n) i = u i := by
  unfold dgt
  have h := cod_div (v := u) (p := i + 1) (k := n - 1 - i) (fun j hj => hu j (by omega))
  rw [show i + 1 + (n - 1 - i) = n by omega] at h
  rw [h]
  show (8 * cod u i + u i) % 8 = u i
  have := hu i hi
  omega
theorem cod_dgt {n c : Nat} : ∀ {p : Nat}, p ≤ n → c < 8 ^ n → cod (dgt n c) p = c / 8 ^ (n - p)
  | 0, _, hc => by rw [Nat.sub_zero, Nat.div_eq_of_lt hc]; rfl
  | p + 1, hp, hc => by
    show 8 * cod (dgt n c) p + dgt n c p = _
    rw [cod_dgt (p := p) (by omega) hc]
    unfold dgt
    rw [show n - p = (n - (p + 1)) + 1 by omega, Nat.pow_succ, ← Nat.div_div_eq_div_mul, show n - 1 - p = n - (p + 1) by omega]
    omega
def repL (n : Nat) (L : List (Nat × Nat)) (kw : Nat → Nat) (ky : Nat → Int32) : Prop := ∀ j x, L[j]? = some x → kw j = x.1 ∧ ∀ p, p < n → ky (6 * j + p) = nI (dgt n x.2 p)
theorem repL_ins {n r : Nat} {L : List (Nat × Nat)} {kw kw1 : Nat → Nat} {ky ky1 : Nat → Int32} {x : Nat × Nat} (hn : n ≤ 6) (h : repL n L kw ky) (hr : r ≤ L.length) (hs : shf L.length r kw ky kw1 ky1) (hw : kw1 r = x.1) (hy : ∀ p, p < n → ky1 (6 * r + p) = nI (dgt n x.2 p)) :
    repL n ((L.take r ++ x :: L.drop r).take 10) kw1 ky1 := by
  intro j z hz
  have hz2 : (L.take r ++ x :: L.drop r)[j]? = some z := by
    rw [List.getElem?_take] at hz
    split at hz
    · exact hz
    · cases hz
  have hlr : (L.take r).length = r := by rw [List.length_take]; omega
  rcases Nat.lt_trichotomy j r with g | g | g
  · rw [List.getElem?_append_left (by omega), List.getElem?_take_of_lt g] at hz2
    have q := h j z hz2
    have e := hs.1 j g
    exact ⟨e.1.trans q.1, fun p hp => (e.2 p (by omega)).trans (q.2 p hp)⟩
  · subst g
    rw [List.getElem?_append_right (by omega), hlr, Nat.sub_self] at hz2
    obtain rfl : x = z := by simpa using hz2
    exact ⟨hw, hy⟩
  · rw [List.getElem?_append_right (by omega), hlr, show j - r = (j - 1 - r) + 1 by omega, List.getElem?_cons_succ, List.getElem?_drop, show r + (j - 1 - r) = j - 1 by omega] at hz2
    have hj := (List.getElem?_eq_some_iff.mp hz2).1
    have q := h (j - 1) z hz2
    have e := hs.2 j g (by omega)
    exact ⟨e.1.trans q.1, fun p hp => (e.2 p (by omega)).trans (q.2 p hp)⟩
