theorem i_nat {a : Int32} (h : ¬ a < 0) : a = nI a.toNatClampNeg := by
  rw [Int32.lt_iff_toInt_lt] at h
  have h2 : 0 ≤ a.toInt := by simpa using h
  unfold nI
  apply Int32.toInt_inj.mp
  have h3 : a.toNatClampNeg < 2 ^ 31 := by
    have := a.toInt_lt
    unfold Int32.toNatClampNeg
    omega
  rw [Int32.toInt_ofNat_of_lt h3]
  unfold Int32.toNatClampNeg
  omega
theorem i_lt {a : Int32} {q : Nat} (hq : q < 2 ^ 31) (h : ¬ a < 0) (h1 : a < nI q) : a.toNatClampNeg < q := by
  rw [Int32.lt_iff_toInt_lt] at h h1
  unfold nI at h1
  rw [Int32.toInt_ofNat_of_lt hq] at h1
  have h2 : 0 ≤ a.toInt := by simpa using h
  unfold Int32.toNatClampNeg
  omega
theorem i_le {a : Int32} {q : Nat} (hq : q < 2 ^ 31) (h : ¬ a < 0) (h1 : a ≤ nI q) : a.toNatClampNeg ≤ q := by
  rw [Int32.lt_iff_toInt_lt] at h
  rw [Int32.le_iff_toInt_le] at h1
  unfold nI at h1
  rw [Int32.toInt_ofNat_of_lt hq] at h1
  have h2 : 0 ≤ a.toInt := by simpa using h
  unfold Int32.toNatClampNeg
  omega
theorem i_cases (a : Int32) {q : Nat} (hq : q < 2 ^ 31) : (a < 0 ∨ nI q ≤ a) ∨ ∃ j, j < q ∧ a = nI j := by
  by_cases h0 : a < 0
  · exact Or.inl (Or.inl h0)
  · by_cases h1 : nI q ≤ a
    · exact Or.inl (Or.inr h1)
    · exact Or.inr ⟨_, i_lt hq h0 (Int32.not_le.mp h1), i_nat h0⟩
theorem i_cases2 (a : Int32) : (a < 0 ∨ nI 4 < a) ∨ ∃ j, j ≤ 4 ∧ a = nI j := by
  by_cases h0 : a < 0
  · exact Or.inl (Or.inl h0)
  · by_cases h1 : nI 4 < a
    · exact Or.inl (Or.inr h1)
    · exact Or.inr ⟨_, i_le (by decide) h0 (Int32.not_lt.mp h1), i_nat h0⟩
theorem i_part (a : Int32) : (a ≠ 0 ∧ a ≠ nI 1) ∨ ∃ j, j ≤ 1 ∧ a = nI j := by
  by_cases h0 : a = 0
  · exact Or.inr ⟨0, by omega, h0⟩
  · by_cases h1 : a = nI 1
    · exact Or.inr ⟨1, by omega, h1⟩
    · exact Or.inl ⟨h0, h1⟩
theorem i_sign (a : Int32) : (a < -1 ∨ nI 4 ≤ a) ∨ (¬ a < -1 ∧ a < nI 4 ∧ (a = -1 ∨ ∃ z, z < 4 ∧ a = nI z)) := by
  by_cases h0 : a < -1
  · exact Or.inl (Or.inl h0)
  · by_cases h1 : nI 4 ≤ a
    · exact Or.inl (Or.inr h1)
    · refine Or.inr ⟨h0, Int32.not_le.mp h1, ?_⟩
      by_cases h2 : a < 0
      · left
        apply Int32.toInt_inj.mp
        rw [Int32.lt_iff_toInt_lt] at h0 h2
        have e1 : (-1 : Int32).toInt = -1 := by decide
        have e2 : (0 : Int32).toInt = 0 := by decide
        rw [e1] at h0 ⊢
        rw [e2] at h2
        omega
      · exact Or.inr ⟨_, i_lt (by decide) h2 (Int32.not_le.mp h1), i_nat h2⟩
def zS (s : hS) : Prop := (∀ j z, s.2.2 ≤ j → s.1 j z = 0) ∧ ∀ j z, s.2.2 ≤ j ∨ s.2.2 ≤ z → s.2.1 j z = 0
def kW (cu : Nat → Nat) (r : hR) (s : hS) (w : hW) : Prop := w.2.2.2.2.2 = 0 ∨ w.2.2.2.2.2 = 1 ∧ okW cu r s w
def kB (r : hR) (ms : hA) (mp : hP) (b : hB) : Prop := b.2 = 0 ∨ b.2 = 1 ∧ Qb r ms mp b.1
def kT (k : hK) (r : hR) (t : hT) : Prop := t.2.2.2.2.2.2.2 = 0 ∨ t.2.2.2.2.2.2.2 = 1 ∧ okT k r t.1 t.2.1 t.2.2.1
def kM (ms : hA) (mp : hP) (mc : hC) : Prop := mc.1 = 0 ∨ mc.1 = 1 ∧ knM ms mp mc
def kD (n : Nat) (d : hD) (md : Nat × (Nat → Int32)) : Prop := (d.2.2.2.2.2 = 0 ∧ md.1 = 0) ∨ (d.2.2.2.2.2 = 1 ∧ md.1 = 1 ∧ d.2.2.2.2.1 < 8 ^ n ∧ ∀ p, p < n → md.2 p = nI (dgt n d.2.2.2.2.1 p))
def relA (r : hR) (s : hS) (w c : hW) (b : hB) (d : hD) (k : hK) (t : hT) (ms mk : hA) (mp : hP) (mc : hC) (md : Nat × (Nat → Int32)) : Prop :=
  relW r s ms mp ∧ relT r k mk mp ∧ okM ms mp ∧ okQ mk mp ∧ zS s ∧ kW id r s w ∧ kW cuC r s c ∧ kB r ms mp b ∧ kT k r t ∧ kM ms mp mc ∧ kD r.2.2 d md
theorem relA_ways {r r' : hR} {s s' : hS} {w c : hW} {b : hB} {d : hD} {k : hK} {t t' : hT} {ms ms' mk : hA} {mp mp' : hP} {mc : hC} {md : Nat × (Nat → Int32)} (h : relA r s w c b d k t ms mk mp mc md) (hW : relW r' s' ms' mp') (hT : relT r' k mk mp') (hM : okM ms' mp') (hQ : okQ mk mp') (hz : zS s') (ht : kT k r' t') :
    relA r' s' (w.1, w.2.1, w.2.2.1, w.2.2.2.1, w.2.2.2.2.1, 0) (c.1, c.2.1, c.2.2.1, c.2.2.2.1, c.2.2.2.2.1, 0) (b.1, 0) (d.1, d.2.1, d.2.2.1, d.2.2.2.1, d.2.2.2.2.1, 0) k t' ms' mk mp' (0, mc.2) (0, md.2) :=
  ⟨hW, hT, hM, hQ, hz, Or.inl rfl, Or.inl rfl, Or.inl rfl, ht, Or.inl rfl, Or.inl ⟨rfl, rfl⟩⟩
theorem relA_state {r : hR} {s : hS} {w c : hW} {b : hB} {d : hD} {k : hK} {t : hT} {ms mk : hA} {mp : hP} {mc : hC} {md : Nat × (Nat → Int32)} (h : relA r s w c b d k t ms mk mp mc md) (hq : s.2.2 < 4) :
    relA r (up2 (up2 (up2 s.1 s.2.2 0 1) s.2.2 1 1) s.2.2 2 1, s.2.1, s.2.2 + 1) (w.1, w.2.1, w.2.2.1, w.2.2.2.1, w.2.2.2.2.1, 0) (c.1, c.2.1, c.2.2.1, c.2.2.2.1, c.2.2.2.2.1, 0) (b.1, 0) (d.1, d.2.1, d.2.2.1, d.2.2.2.1, d.2.2.2.2.1, 0) k t (ms.1 + 1, mW ms.2.1 ms.1 9, mV ms.2.2 ms.1 (ms.1 + 1)) mk mp (0, mc.2) (0, md.2) := by
  obtain ⟨⟨hr, hH, hs, hS, hR⟩, hT, hM, hQ, hz, -, -, -, ht, -, -⟩ := id h
  have hu : ∀ j z, up2 (up2 (up2 s.1 s.2.2 0 1) s.2.2 1 1) s.2.2 2 1 j z = if j = s.2.2 ∧ z < 3 then 1 else s.1 j z := by
    intro j z
    rw [up2_at, up2_at, up2_at]
    by_cases e : j = s.2.2
    · by_cases e2 : z < 3
      · rw [if_pos (c := j = s.2.2 ∧ z < 3) ⟨e, e2⟩]
        obtain rfl | rfl | rfl : z = 0 ∨ z = 1 ∨ z = 2 := by omega
        all_goals simp [e]
      · rw [if_neg (c := j = s.2.2 ∧ z < 3) (by omega), if_neg (by omega), if_neg (by omega), if_neg (by omega)]
    · rw [if_neg (c := j = s.2.2 ∧ z < 3) (fun q => e q.1), if_neg (fun q => e q.1), if_neg (fun q => e q.1), if_neg (fun q => e q.1)]
  have hq1 : ms.1 = s.2.2 := hS.1.symm
  refine relA_ways h ⟨hr, hH, ⟨by show s.2.2 + 1 ≤ 4; omega, fun i j => ?_, hs.2.2⟩, ⟨?_, fun j z hj hz' => ?_, fun j z hj hz' => ?_⟩, hR⟩ hT ⟨hM.1, by show ms.1 + 1 ≤ 4; omega, fun i => ?_, fun i => ?_, hM.2.2.2.2⟩ hQ ⟨fun j z hj => ?_, fun j z hj => ?_⟩ ht
  · show up2 _ _ _ _ i j ≤ 4
    rw [hu]
    have := hs.2.1 i j
    split <;> omega
  · show s.2.2 + 1 = ms.1 + 1
    omega
  · show up2 _ _ _ _ j z = mW ms.2.1 ms.1 9 (9 * j + z)
    rw [hu]
    unfold mW
    rw [hq1]
    by_cases e : j = s.2.2
    · subst e
      rw [if_pos (c := 9 * s.2.2 ≤ 9 * s.2.2 + z ∧ 9 * s.2.2 + z < 9 * s.2.2 + 9) (by omega)]
      by_cases e2 : z < 3
      · rw [if_pos ⟨rfl, e2⟩, if_pos (by omega)]
      · rw [if_neg (fun q => e2 q.2), if_neg (by omega), hz.1 _ _ (Nat.le_refl _)]
    · rw [if_neg (fun q => e q.1), if_neg (by omega), hS.2.1 j z hj hz']
  · show s.2.1 j z = mV ms.2.2 ms.1 (ms.1 + 1) (4 * j + z)
    unfold mV
    rw [hq1]
    by_cases e : ((4 * j + z) / 4 = s.2.2 ∧ (4 * j + z) % 4 < s.2.2 + 1) ∨ ((4 * j + z) % 4 = s.2.2 ∧ (4 * j + z) / 4 < s.2.2 + 1)
    · rw [if_pos e, hz.2 j z (by omega)]
    · rw [if_neg e, hS.2.2 j z hj hz']
  · show mW _ _ _ _ ≤ 4
    unfold mW
    have := hM.2.2.1 i
    split
    · split <;> omega
    · omega
  · show mV _ _ _ _ ≤ 4
    unfold mV
    have := hM.2.2.2.1 i
    split <;> omega
  · have hj : s.2.2 + 1 ≤ j := hj
    show up2 _ _ _ _ j z = 0
    rw [hu, if_neg (by omega), hz.1 _ _ (by omega)]
  · have hj : s.2.2 + 1 ≤ j ∨ s.2.2 + 1 ≤ z := hj
    exact hz.2 j z (by omega)
theorem relA_weight {r : hR} {s : hS} {w c : hW} {b : hB} {d : hD} {k : hK} {t : hT} {ms mk : hA} {mp : hP} {mc : hC} {md : Nat × (Nat → Int32)} (h : relA r s w c b d k t ms mk mp mc md) {j z x : Nat} (hj : j < s.2.2) (hz9 : z < 9) (hx : x ≤ 4) :
    relA r (up2 s.1 j z x, s.2.1, s.2.2) (w.1, w.2.1, w.2.2.1, w.2.2.2.1, w.2.2.2.2.1, 0) (c.1, c.2.1, c.2.2.1, c.2.2.2.1, c.2.2.2.2.1, 0) (b.1, 0) (d.1, d.2.1, d.2.2.1, d.2.2.2.1, d.2.2.2.2.1, 0) k t (ms.1, va_up ms.2.1 (9 * j + z) x, ms.2.2) mk mp (0, mc.2) (0, md.2) := by
  obtain ⟨⟨hr, hH, hs, hS, hR⟩, hT, hM, hQ, hz, -, -, -, ht, -, -⟩ := id h
  refine relA_ways h ⟨hr, hH, ⟨hs.1, fun a e => ?_, hs.2.2⟩, ⟨hS.1, fun a e ha he => ?_, hS.2.2⟩, hR⟩ hT ⟨hM.1, hM.2.1, fun i => ?_, hM.2.2.2.1, hM.2.2.2.2⟩ hQ ⟨fun a e ha => ?_, hz.2⟩ ht
  · show up2 s.1 j z x a e ≤ 4
    rw [up2_at]
    have := hs.2.1 a e
    split <;> omega
  · show up2 s.1 j z x a e = if 9 * a + e = 9 * j + z then x else ms.2.1 (9 * a + e)
    rw [up2_at, hS.2.1 a e ha he]
    exact ite_iff ⟨fun q => by omega, fun q => by omega⟩
  · show (if i = 9 * j + z then x else ms.2.1 i) ≤ 4
    have := hM.2.2.1 i
    split <;> omega
  · have ha : s.2.2 ≤ a := ha
    show up2 s.1 j z x a e = 0
    rw [up2_at, if_neg (by omega), hz.1 a e ha]
theorem relA_move {r : hR} {s : hS} {w c : hW} {b : hB} {d : hD} {k : hK} {t : hT} {ms mk : hA} {mp : hP} {mc : hC} {md : Nat × (Nat → Int32)} (h : relA r s w c b d k t ms mk mp mc md) {j z x : Nat} (hj : j < s.2.2) (hz4 : z < s.2.2) (hx : x ≤ 4) :
    relA r (s.1, up2 s.2.1 j z x, s.2.2) (w.1, w.2.1, w.2.2.1, w.2.2.2.1, w.2.2.2.2.1, 0) (c.1, c.2.1, c.2.2.1, c.2.2.2.1, c.2.2.2.2.1, 0) (b.1, 0) (d.1, d.2.1, d.2.2.1, d.2.2.2.1, d.2.2.2.2.1, 0) k t (ms.1, ms.2.1, va_up ms.2.2 (4 * j + z) x) mk mp (0, mc.2) (0, md.2) := by
  obtain ⟨⟨hr, hH, hs, hS, hR⟩, hT, hM, hQ, hz, -, -, -, ht, -, -⟩ := id h
  have hq := hs.1
  refine relA_ways h ⟨hr, hH, ⟨hs.1, hs.2.1, fun a e => ?_⟩, ⟨hS.1, hS.2.1, fun a e ha he => ?_⟩, hR⟩ hT ⟨hM.1, hM.2.1, hM.2.2.1, fun i => ?_, hM.2.2.2.2⟩ hQ ⟨hz.1, fun a e ha => ?_⟩ ht
  · show up2 s.2.1 j z x a e ≤ 4
    rw [up2_at]
    have := hs.2.2 a e
    split <;> omega
  · show up2 s.2.1 j z x a e = if 4 * a + e = 4 * j + z then x else ms.2.2 (4 * a + e)
    rw [up2_at, hS.2.2 a e ha he]
    exact ite_iff ⟨fun q => by omega, fun q => by omega⟩
  · show (if i = 4 * j + z then x else ms.2.2 i) ≤ 4
    have := hM.2.2.2.1 i
    split <;> omega
  · have ha : s.2.2 ≤ a ∨ s.2.2 ≤ e := ha
    show up2 s.2.1 j z x a e = 0
    rw [up2_at, if_neg (by omega), hz.2 a e ha]
theorem relA_trees {r : hR} {s : hS} {w c : hW} {b : hB} {d : hD} {k k' : hK} {t : hT} {ms mk mk' : hA} {mp : hP} {mc : hC} {md : Nat × (Nat → Int32)} (h : relA r s w c b d k t ms mk mp mc md) (hK : okK k') (hk : relK k' mk') (h1 : mk'.1 ≤ 4) (h2 : ∀ i, mk'.2.1 i ≤ 4) (h3 : ∀ i, mk'.2.2 i ≤ 4) :
    relA r s w c b d k' (t.1, t.2.1, t.2.2.1, t.2.2.2.1, t.2.2.2.2.1, t.2.2.2.2.2.1, t.2.2.2.2.2.2.1, 0) ms mk' mp mc md := by
  obtain ⟨a1, a2, a3, a4, a5, a6, a7, a8, a9, a10, a11⟩ := h
  exact ⟨a1, ⟨a2.1, hK, hk, a2.2.2.2⟩, a3, ⟨a4.1, h1, h2, h3, a4.2.2.2.2⟩, a5, a6, a7, a8, Or.inl rfl, a10, a11⟩
theorem relA_kind {r : hR} {s : hS} {w c : hW} {b : hB} {d : hD} {k : hK} {t : hT} {ms mk : hA} {mp : hP} {mc : hC} {md : Nat × (Nat → Int32)} (h : relA r s w c b d k t ms mk mp mc md) (hq : k.2.2 < 4) :
    relA r s w c b d (k.1, k.2.1, k.2.2 + 1) (t.1, t.2.1, t.2.2.1, t.2.2.2.1, t.2.2.2.2.1, t.2.2.2.2.2.1, t.2.2.2.2.2.2.1, 0) ms (mk.1 + 1, mk.2) mp mc md := by
  have hk := h.2.1.2.2.1
  have hK := h.2.1.2.1
  have hQ := h.2.2.2.1
  have := hk.1
  exact relA_trees h ⟨by show k.2.2 + 1 ≤ 4; omega, hK.2.1, hK.2.2⟩ ⟨by show k.2.2 + 1 = mk.1 + 1; omega, hk.2.1, hk.2.2⟩ (by show mk.1 + 1 ≤ 4; omega) hQ.2.2.1 hQ.2.2.2.1
theorem relA_rule {r : hR} {s : hS} {w c : hW} {b : hB} {d : hD} {k : hK} {t : hT} {ms mk : hA} {mp : hP} {mc : hC} {md : Nat × (Nat → Int32)} (h : relA r s w c b d k t ms mk mp mc md) {a e f x : Nat} (ha : a < k.2.2) (he : e < k.2.2) (hf : f < k.2.2) (hx : x ≤ 4) :
    relA r s w c b d (up2 k.1 a (e * 4 + f) x, k.2.1, k.2.2) (t.1, t.2.1, t.2.2.1, t.2.2.2.1, t.2.2.2.2.1, t.2.2.2.2.2.1, t.2.2.2.2.2.2.1, 0) ms (mk.1, va_up mk.2.1 (16 * a + 4 * e + f) x, mk.2.2) mp mc md := by
  have hk := h.2.1.2.2.1
  have hK := h.2.1.2.1
  have hQ := h.2.2.2.1
  have hq := hK.1
  refine relA_trees h ⟨hK.1, fun i j => ?_, hK.2.2⟩ ⟨hk.1, fun a1 b1 c1 h1 h2 h3 => ?_, hk.2.2⟩ hQ.2.1 (fun i => ?_) hQ.2.2.2.1
  · show up2 _ _ _ _ i j ≤ 4
    rw [up2_at]
    have := hK.2.1 i j
    split <;> omega
  · show up2 k.1 a (e * 4 + f) x a1 (b1 * 4 + c1) = if 16 * a1 + (b1 * 4 + c1) = 16 * a + 4 * e + f then x else mk.2.1 (16 * a1 + (b1 * 4 + c1))
    rw [up2_at, hk.2.1 a1 b1 c1 h1 h2 h3]
    exact ite_iff ⟨fun q => by omega, fun q => by omega⟩
  · show (if i = 16 * a + 4 * e + f then x else mk.2.1 i) ≤ 4
    have := hQ.2.2.1 i
    split <;> omega
theorem relA_leaf {r : hR} {s : hS} {w c : hW} {b : hB} {d : hD} {k : hK} {t : hT} {ms mk : hA} {mp : hP} {mc : hC} {md : Nat × (Nat → Int32)} (h : relA r s w c b d k t ms mk mp mc md) {a z x : Nat} (ha : a < k.2.2) (hz : z < 4) (hx : x ≤ 4) :
    relA r s w c b d (k.1, up2 k.2.1 a z x, k.2.2) (t.1, t.2.1, t.2.2.1, t.2.2.2.1, t.2.2.2.2.1, t.2.2.2.2.2.1, t.2.2.2.2.2.2.1, 0) ms (mk.1, mk.2.1, va_up mk.2.2 (4 * a + z) x) mp mc md := by
  have hk := h.2.1.2.2.1
  have hK := h.2.1.2.1
  have hQ := h.2.2.2.1
  have hq := hK.1
  refine relA_trees h ⟨hK.1, hK.2.1, fun i j => ?_⟩ ⟨hk.1, hk.2.1, fun a1 z1 h1 h2 => ?_⟩ hQ.2.1 hQ.2.2.1 (fun i => ?_)
  · show up2 _ _ _ _ i j ≤ 4
    rw [up2_at]
    have := hK.2.2 i j
    split <;> omega
  · show up2 k.2.1 a z x a1 z1 = if 4 * a1 + z1 = 4 * a + z then x else mk.2.2 (4 * a1 + z1)
    rw [up2_at, hk.2.2 a1 z1 h1 h2]
    exact ite_iff ⟨fun q => by omega, fun q => by omega⟩
  · show (if i = 4 * a + z then x else mk.2.2 i) ≤ 4
    have := hQ.2.2.2.1 i
    split <;> omega
theorem relA_row {r r' : hR} {s : hS} {w c : hW} {b : hB} {d : hD} {k : hK} {t t' : hT} {ms mk : hA} {mp mp' : hP} {mc : hC} {md : Nat × (Nat → Int32)} (h : relA r s w c b d k t ms mk mp mc md) (hr : okR r') (hH : okH r') (hR : r' = vR mp') (ht : kT k r' t') :
    relA r' s (w.1, w.2.1, w.2.2.1, w.2.2.2.1, w.2.2.2.2.1, 0) (c.1, c.2.1, c.2.2.1, c.2.2.2.1, c.2.2.2.2.1, 0) (b.1, 0) (d.1, d.2.1, d.2.2.1, d.2.2.2.1, d.2.2.2.2.1, 0) k t' ms mk mp' (0, mc.2) (0, md.2) := by
  obtain ⟨⟨-, -, hs, hS, -⟩, hT, hM, hQ, hz, -⟩ := id h
  have h6 := hr.1
  subst hR
  exact relA_ways h ⟨hr, hH, hs, hS, rfl⟩ ⟨hr, hT.2.1, hT.2.2.1, rfl⟩ ⟨hr.1, hM.2.1, hM.2.2.1, hM.2.2.2.1, hr.2⟩ ⟨hr.1, hQ.2.1, hQ.2.2.1, hQ.2.2.2.1, hr.2⟩ hz ht
theorem relA_sign {r : hR} {s : hS} {w c : hW} {b : hB} {d : hD} {k : hK} {t : hT} {ms mk : hA} {mp : hP} {mc : hC} {md : Nat × (Nat → Int32)} (h : relA r s w c b d k t ms mk mp mc md) {x : Int32} (hx : x = -1 ∨ ∃ z, z < 4 ∧ x = nI z) (hn : r.2.2 < 6) :
    relA (upd r.1 r.2.2 x, upd r.2.1 r.2.2 (-1), r.2.2 + 1) s (w.1, w.2.1, w.2.2.1, w.2.2.2.1, w.2.2.2.2.1, 0) (c.1, c.2.1, c.2.2.1, c.2.2.2.1, c.2.2.2.2.1, 0) (b.1, 0) (d.1, d.2.1, d.2.2.1, d.2.2.2.1, d.2.2.2.2.1, 0) k (t.1, t.2.1, t.2.2.1, t.2.2.2.1, t.2.2.2.2.1, t.2.2.2.2.2.1, t.2.2.2.2.2.2.1, 0) ms mk (mp.1 + 1, upd mp.2.1 mp.1 x, upd mp.2.2 mp.1 (-1)) (0, mc.2) (0, md.2) := by
  obtain ⟨⟨hr, hH, -, -, hR⟩, -⟩ := id h
  refine relA_row h ⟨by show r.2.2 + 1 ≤ 6; omega, fun i hi => ?_⟩ (fun p hp => ?_) ?_ (Or.inl rfl)
  · show (if i = r.2.2 then x else r.1 i) = -1 ∨ ∃ z, z < 4 ∧ (if i = r.2.2 then x else r.1 i) = nI z
    split
    · exact hx
    · exact hr.2 i hi
  · have hp : p < r.2.2 + 1 := hp
    show (if p = r.2.2 then (-1 : Int32) else r.2.1 p) = -1 ∨ ∃ z, z < 4 ∧ (if p = r.2.2 then (-1 : Int32) else r.2.1 p) = nI z
    split
    · exact Or.inl rfl
    · exact hH p (by omega)
  · subst hR
    rfl
theorem relA_clear {r : hR} {s : hS} {w c : hW} {b : hB} {d : hD} {k : hK} {t : hT} {ms mk : hA} {mp : hP} {mc : hC} {md : Nat × (Nat → Int32)} (h : relA r s w c b d k t ms mk mp mc md) :
    relA (r.1, r.2.1, 0) s (w.1, w.2.1, w.2.2.1, w.2.2.2.1, w.2.2.2.2.1, 0) (c.1, c.2.1, c.2.2.1, c.2.2.2.1, c.2.2.2.2.1, 0) (b.1, 0) (d.1, d.2.1, d.2.2.1, d.2.2.2.1, d.2.2.2.2.1, 0) k (t.1, t.2.1, t.2.2.1, t.2.2.2.1, t.2.2.2.2.1, t.2.2.2.2.2.1, t.2.2.2.2.2.2.1, 0) ms mk (0, mp.2) (0, mc.2) (0, md.2) := by
  obtain ⟨⟨hr, hH, -, -, hR⟩, -⟩ := id h
  refine relA_row h ⟨by show 0 ≤ 6; omega, hr.2⟩ (fun p hp => absurd hp (Nat.not_lt_zero p)) ?_ (Or.inl rfl)
  subst hR
  rfl
theorem relA_hold {r : hR} {s : hS} {w c : hW} {b : hB} {d : hD} {k : hK} {t : hT} {ms mk : hA} {mp : hP} {mc : hC} {md : Nat × (Nat → Int32)} (h : relA r s w c b d k t ms mk mp mc md) {p : Nat} {x : Int32} (hx : x = -1 ∨ ∃ z, z < 4 ∧ x = nI z) :
    relA (r.1, upd r.2.1 p x, r.2.2) s (w.1, w.2.1, w.2.2.1, w.2.2.2.1, w.2.2.2.2.1, 0) (c.1, c.2.1, c.2.2.1, c.2.2.2.1, c.2.2.2.2.1, 0) (b.1, 0) (d.1, d.2.1, d.2.2.1, d.2.2.2.1, d.2.2.2.2.1, 0) k t ms mk (mp.1, mp.2.1, upd mp.2.2 p x) (0, mc.2) (0, md.2) := by
  obtain ⟨⟨hr, hH, -, -, hR⟩, -, -, -, -, -, -, -, ht, -⟩ := id h
  refine relA_row h hr (fun i hi => ?_) ?_ ?_
  · show (if i = p then x else r.2.1 i) = -1 ∨ ∃ z, z < 4 ∧ (if i = p then x else r.2.1 i) = nI z
    split
    · exact hx
    · exact hH i hi
  · subst hR
    rfl
  · exact ht
theorem relA_0 : relA (fun _ => nI 0, fun _ => nI 0, 0) (fun _ _ => 0, fun _ _ => 0, 0) (fun _ _ => 0, fun _ _ => 0, fun _ _ => 0, fun _ _ => 0, fun _ _ => 0, 0) (fun _ _ => 0, fun _ _ => 0, fun _ _ => 0, fun _ _ => 0, fun _ _ => 0, 0) (fun _ => (fun _ => 0, fun _ => 0, 0), 0) (1, 0, 0, 1, 0, 0) (fun _ _ => 0, fun _ _ => 0, 0) (fun _ _ => 0, fun _ _ => 0, fun _ _ => 0, fun _ _ => 0, fun _ => 0, fun _ => 0, 0, 0) (0, fun _ => 0, fun _ => 0) (0, fun _ => 0, fun _ => 0) (0, fun _ => nI 0, fun _ => nI 0) (0, 0, 0, fun _ => 0, fun _ => 0, fun _ => 0, 0, fun _ => 0, fun _ => nI 0) (0, fun _ => nI 0) := by
  have hr : okR (fun _ => nI 0, fun _ => nI 0, 0) := ⟨Nat.zero_le _, fun i _ => Or.inr ⟨0, by omega, rfl⟩⟩
  exact ⟨⟨hr, fun p hp => absurd hp (Nat.not_lt_zero p), ⟨Nat.zero_le _, fun _ _ => Nat.zero_le _, fun _ _ => Nat.zero_le _⟩, ⟨rfl, fun _ _ _ _ => rfl, fun _ _ _ _ => rfl⟩, rfl⟩, ⟨hr, ⟨Nat.zero_le _, fun _ _ => Nat.zero_le _, fun _ _ => Nat.zero_le _⟩, ⟨rfl, fun _ _ _ _ _ _ => rfl, fun _ _ _ _ => rfl⟩, rfl⟩, ⟨Nat.zero_le _, Nat.zero_le _, fun _ => Nat.zero_le _, fun _ => Nat.zero_le _, hr.2⟩, ⟨Nat.zero_le _, Nat.zero_le _, fun _ => Nat.zero_le _, fun _ => Nat.zero_le _, hr.2⟩, ⟨fun _ _ _ => rfl, fun _ _ _ => rfl⟩, Or.inl rfl, Or.inl rfl, Or.inl rfl, Or.inl rfl, Or.inl rfl, Or.inl ⟨rfl, rfl⟩⟩
