theorem bt2_irr {x : Nat × Nat} (h : bt2 x x) : False := by
  unfold bt2 at h
  omega
theorem bt2_asym {x y : Nat × Nat} (h : bt2 x y) (g : bt2 y x) : False := bt2_irr (bt2_trans h g)
theorem isTop_eq {S : Nat × Nat → Prop} {L L' : List (Nat × Nat)} (h : isTop L S) (h' : isTop L' S) : ∀ j : Nat, L[j]? = L'[j]? := by
  have main : ∀ (L L' : List (Nat × Nat)), isTop L S → isTop L' S → ∀ (j : Nat) x, L[j]? = some x → (∀ i, i < j → L[i]? = L'[i]?) → L'[j]? = some x ∨ ∃ y, L'[j]? = some y ∧ bt2 y x := by
    intro L L' h h' j x hx hpre
    have hxS : S x := h.2.2.1 x (List.mem_of_getElem? hx)
    rcases h'.2.2.2 x hxS with hm | ⟨hl, hb⟩
    · obtain ⟨i, hi⟩ := List.mem_iff_getElem?.mp hm
      rcases Nat.lt_trichotomy i j with g | g | g
      · exfalso
        have e := hpre i g
        rw [hi] at e
        obtain ⟨hi1, e1⟩ := List.getElem?_eq_some_iff.mp e
        obtain ⟨hj1, e2⟩ := List.getElem?_eq_some_iff.mp hx
        have := List.pairwise_iff_getElem.mp h.2.1 i j hi1 hj1 g
        rw [e1, e2] at this
        exact bt2_irr this
      · subst g
        exact Or.inl hi
      · right
        obtain ⟨hi1, e1⟩ := List.getElem?_eq_some_iff.mp hi
        refine ⟨L'[j]'(by omega), List.getElem?_eq_getElem (by omega), ?_⟩
        have := List.pairwise_iff_getElem.mp h'.2.1 j i (by omega) hi1 g
        rw [e1] at this
        exact this
    · right
      obtain ⟨hj1, -⟩ := List.getElem?_eq_some_iff.mp hx
      have hl10 := h.1
      exact ⟨L'[j]'(by omega), List.getElem?_eq_getElem (by omega), hb _ (List.getElem_mem _)⟩
  intro j
  induction j using Nat.strongRecOn with
  | ind j ih =>
    cases hx : L[j]? with
    | none =>
      cases hy : L'[j]? with
      | none => rfl
      | some y =>
        rcases main L' L h' h j y hy (fun i hi => (ih i hi).symm) with q | ⟨z, q, -⟩
        · rw [hx] at q; cases q
        · rw [hx] at q; cases q
    | some x =>
      rcases main L L' h h' j x hx ih with q | ⟨y, q, hb⟩
      · exact q.symm
      · rcases main L' L h' h j y q (fun i hi => (ih i hi).symm) with q2 | ⟨z, q2, hb2⟩
        · rw [hx] at q2
          cases q2
          exact q.symm
        · rw [hx] at q2
          cases q2
          exact (bt2_asym hb hb2).elim
