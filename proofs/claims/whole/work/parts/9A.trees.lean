def relK (k : hK) (mk : hA) : Prop := k.2.2 = mk.1 ∧ (∀ a b c, a < 4 → b < 4 → c < 4 → k.1 a (b * 4 + c) = mk.2.1 (16 * a + (b * 4 + c))) ∧ ∀ a z, a < 4 → z < 4 → k.2.1 a z = mk.2.2 (4 * a + z)
def relT (r : hR) (k : hK) (mk : hA) (mp : hP) : Prop := okR r ∧ okK k ∧ relK k mk ∧ r = vR mp
theorem relT_lea {r : hR} {k : hK} {mk : hA} {mp : hP} (h : relT r k mk mp) {kk i : Nat} (hk : kk < k.2.2) (hi : i < r.2.2) : leaR k kk (r.1 i) = leaR (vK mk) kk ((vR mp).1 i) := by
  obtain ⟨h1, h2, h3, rfl⟩ := h
  have hq := h2.1
  have h6 := h1.1
  unfold leaR
  by_cases e : (vR mp).1 i = -1
  · rw [if_pos e, if_pos e]
    refine sumR_congr (fun y hy => ?_)
    rw [Nat.zero_add]
    exact h3.2.2 kk y (by omega) hy
  · rw [if_neg e, if_neg e]
    obtain g | ⟨z, hz, g⟩ := h1.2 i (by omega)
    · exact absurd g e
    · rw [g, cl4 hz]
      exact h3.2.2 kk z (by omega) hz
theorem relT_eq {r : hR} {k : hK} {mk : hA} {mp : hP} (h : relT r k mk mp) {su ct be : hG} {mq : hF} (h1 : okT k r su ct be) (h2 : okF mk mp mq) {kk a b : Nat} (hk : kk < k.2.2) (hab : a ≤ b) (hb : b < r.2.2) : su kk (a * 6 + b) = vT mq.1 kk (a * 6 + b) ∧ ct kk (a * 6 + b) = vT mq.2.1 kk (a * 6 + b) ∧ be kk (a * 6 + b) = vT mq.2.2 kk (a * 6 + b) := by
  have hq := h.2.1.1
  exact okT_eq h1 h2 h.2.2.1.1.symm (by rw [h.2.2.2]) (fun a b c ha hb hc => h.2.2.1.2.1 a b c (by omega) (by omega) (by omega)) (fun kk i hk hi => relT_lea h hk hi) (b - a + 1) kk a b (by omega) hk hab hb
theorem relT_n {r : hR} {k : hK} {mk : hA} {mp : hP} (h : relT r k mk mp) : mp.1 = r.2.2 := by rw [h.2.2.2]; rfl
theorem eq_trees {r : hR} {k : hK} {mk : hA} {mp : hP} (h : relT r k mk mp) {su ct be : hG} {mq : hF} (h1 : okT k r su ct be) (h2 : okF mk mp mq) {kd : Nat} (hk : kd < k.2.2) : (if r.2.2 = 0 then 0 else su kd (0 * 6 + (r.2.2 - 1))) = allT mp mq.1 kd ∧ (if r.2.2 = 0 then 0 else ct kd (0 * 6 + (r.2.2 - 1))) = allT mp mq.2.1 kd ∧ (if r.2.2 = 0 then 0 else be kd (0 * 6 + (r.2.2 - 1))) = allT mp mq.2.2 kd := by
  unfold allT
  rw [relT_n h]
  by_cases hn : r.2.2 = 0
  · rw [if_pos hn, if_pos hn, if_pos hn, if_pos hn, if_pos hn, if_pos hn]
    exact ⟨rfl, rfl, rfl⟩
  · rw [if_neg hn, if_neg hn, if_neg hn, if_neg hn, if_neg hn, if_neg hn]
    exact relT_eq h h1 h2 hk (by omega) (by omega)
def U6 : Nat → Nat
  | 0 => 16
  | 1 => 16384
  | 2 => 33554432
  | 3 => 85899345920
  | 4 => 246290604621824
  | _ => 756604737398243328
theorem sum2_le {T : Nat → Nat → Nat} {q z : Nat} (hq : q ≤ 4) (h : ∀ b c, b < q → c < q → T b c ≤ z) : sum2 T q ≤ 16 * z := by
  unfold sum2
  have h1 : sumR (fun b => sumR (T b) 0 q) 0 q ≤ sumR (fun _ => 4 * z) 0 q := by
    refine sumR_mono1 (fun b hb => ?_)
    have h2 : sumR (T (0 + b)) 0 q ≤ sumR (fun _ => z) 0 q := sumR_mono1 (fun c hc => h _ _ (by omega) (by omega))
    exact Nat.le_trans h2 (Nat.le_trans (sumR_le (fun _ => Nat.le_refl z) q) (Nat.mul_le_mul_right z hq))
  have h3 := Nat.le_trans h1 (Nat.le_trans (sumR_le (fun _ => Nat.le_refl (4 * z)) q) (Nat.mul_le_mul_right (4 * z) hq))
  omega
theorem lfR_16 {k : hK} {r : hR} (hK : okK k) (kk a b : Nat) : lfR k r kk a b ≤ 16 := lfR_le hK.2.2
theorem su_le {k : hK} {r : hR} {su : hG} (hK : okK k) (hr : okR r) (h : ∀ kk a b, kk < k.2.2 → a ≤ b → b < r.2.2 → su kk (a * 6 + b) ≤ fS k su (lfR k r kk a b) kk a b (b - a)) : ∀ d kk a b, b - a = d → kk < k.2.2 → a ≤ b → b < r.2.2 → su kk (a * 6 + b) ≤ U6 d := by
  have h6 := hr.1
  intro d
  induction d using Nat.strongRecOn with
  | ind d ih =>
    intro kk a b hd hkk hab hb
    refine Nat.le_trans (h kk a b hkk hab hb) ?_
    unfold fS
    rw [hd]
    have ht : ∀ y, y < d → sum2 (tS k.1 su kk (a * 6 + (a + y)) ((a + 1 + y) * 6 + b)) k.2.2 ≤ 64 * (U6 y * U6 (d - 1 - y)) := by
      intro y hy
      have h1 := sum2_le (T := tS k.1 su kk (a * 6 + (a + y)) ((a + 1 + y) * 6 + b)) (z := 4 * (U6 y * U6 (d - 1 - y))) hK.1 (fun x z hx hz => by
        unfold tS
        have e1 := ih y hy x a (a + y) (by omega) hx (by omega) (by omega)
        have e2 := ih (d - 1 - y) (by omega) z (a + 1 + y) b (by omega) hz (by omega) hb
        rw [Nat.mul_assoc]
        exact Nat.mul_le_mul (hK.2.1 _ _) (Nat.mul_le_mul e1 e2))
      omega
    have hs : sumR (fun y => sum2 (tS k.1 su kk (a * 6 + (a + y)) ((a + 1 + y) * 6 + b)) k.2.2) 0 d ≤ sumR (fun y => 64 * (U6 y * U6 (d - 1 - y))) 0 d := sumR_mono1 (fun y hy => by rw [Nat.zero_add]; exact ht y hy)
    have hl : lfR k r kk a b ≤ if d = 0 then 16 else 0 := by
      by_cases e : d = 0
      · rw [if_pos e]
        exact lfR_16 hK kk a b
      · rw [if_neg e]
        unfold lfR
        rw [if_neg (by omega)]
        exact Nat.le_refl _
    refine Nat.le_trans (Nat.add_le_add hl hs) ?_
    obtain rfl | rfl | rfl | rfl | rfl | rfl : d = 0 ∨ d = 1 ∨ d = 2 ∨ d = 3 ∨ d = 4 ∨ d = 5 := by omega
    all_goals decide
theorem U6_lt (d : Nat) : U6 d < 2 ^ 63 := by
  unfold U6
  split <;> decide
theorem okT_lt {k : hK} {r : hR} {su ct be : hG} (hK : okK k) (hr : okR r) (h : okT k r su ct be) {kd : Nat} (hk : kd < k.2.2) : (if r.2.2 = 0 then 0 else su kd (0 * 6 + (r.2.2 - 1))) < 2 ^ 63 := by
  by_cases hn : r.2.2 = 0
  · rw [if_pos hn]
    decide
  · rw [if_neg hn]
    exact Nat.lt_of_le_of_lt (su_le hK hr (fun kk a b h1 h2 h3 => Nat.le_of_eq (h kk a b h1 h2 h3 trivial).1) _ kd 0 (r.2.2 - 1) rfl hk (by omega) (by omega)) (U6_lt _)
theorem mge_R {g : Nat → Nat} {x a : Nat} : ∀ m, x ≤ maxR g x a m ∧ ∀ i, i < m → g (a + i) ≤ maxR g x a m
  | 0 => ⟨Nat.le_refl _, fun i hi => absurd hi (by omega)⟩
  | m + 1 => by
    obtain ⟨h1, h2⟩ := mge_R (g := g) (x := x) (a := a) m
    show x ≤ max (maxR g x a m) (g (a + m)) ∧ ∀ i, i < m + 1 → g (a + i) ≤ max (maxR g x a m) (g (a + m))
    refine ⟨by omega, fun i hi => ?_⟩
    rcases Nat.lt_or_ge i m with q | q
    · have := h2 i q
      omega
    · obtain rfl : i = m := by omega
      omega
theorem mge_2 {T : Nat → Nat → Nat} {x q : Nat} : ∀ m, x ≤ max2 T x q m ∧ ∀ i j, i < m → j < q → T i j ≤ max2 T x q m
  | 0 => ⟨Nat.le_refl _, fun i j hi => absurd hi (by omega)⟩
  | m + 1 => by
    obtain ⟨h1, h2⟩ := mge_2 (T := T) (x := x) (q := q) m
    obtain ⟨g1, g2⟩ := mge_R (g := T m) (x := max2 T x q m) (a := 0) q
    refine ⟨Nat.le_trans h1 g1, fun i j hi hj => ?_⟩
    rcases Nat.lt_or_ge i m with u | u
    · exact Nat.le_trans (h2 i j u hj) g1
    · obtain rfl : i = m := by omega
      have := g2 j hj
      rw [Nat.zero_add] at this
      exact this
theorem mge_F {T : Nat → Nat → Nat → Nat} {x q : Nat} : ∀ m, x ≤ mxF T x q m ∧ ∀ y i j, y < m → i < q → j < q → T y i j ≤ mxF T x q m
  | 0 => ⟨Nat.le_refl _, fun y i j hy => absurd hy (by omega)⟩
  | m + 1 => by
    obtain ⟨h1, h2⟩ := mge_F (T := T) (x := x) (q := q) m
    obtain ⟨g1, g2⟩ := mge_2 (T := T m) (x := mxF T x q m) (q := q) q
    refine ⟨Nat.le_trans h1 g1, fun y i j hy hi hj => ?_⟩
    rcases Nat.lt_or_ge y m with u | u
    · exact Nat.le_trans (h2 y i j u hi hj) g1
    · obtain rfl : y = m := by omega
      exact g2 i j hi hj
theorem sumR_pos {g : Nat → Nat} {a : Nat} : ∀ {m : Nat}, 0 < sumR g a m → ∃ i, i < m ∧ 0 < g (a + i)
  | 0, h => absurd h (Nat.lt_irrefl _)
  | m + 1, h => by
    have h : 0 < sumR g a m + g (a + m) := h
    rcases Nat.eq_zero_or_pos (g (a + m)) with q | q
    · obtain ⟨i, hi, e⟩ := sumR_pos (g := g) (a := a) (m := m) (by omega)
      exact ⟨i, by omega, e⟩
    · exact ⟨m, by omega, q⟩
theorem be_pos {k : hK} {r : hR} {su ct be : hG} (h : okT k r su ct be) : ∀ d kk a b, b - a = d → kk < k.2.2 → a ≤ b → b < r.2.2 → 0 < su kk (a * 6 + b) → 0 < be kk (a * 6 + b) := by
  intro d
  induction d using Nat.strongRecOn with
  | ind d ih =>
    intro kk a b hd hkk hab hb hpos
    obtain ⟨e1, -, e3, -⟩ := h kk a b hkk hab hb trivial
    rw [e1] at hpos
    rw [e3]
    unfold fS at hpos
    unfold fB
    obtain ⟨g1, g2⟩ := mge_F (T := fun y => tS k.1 be kk (a * 6 + (a + y)) ((a + 1 + y) * 6 + b)) (x := lfR k r kk a b) (q := k.2.2) (b - a)
    rcases Nat.eq_zero_or_pos (lfR k r kk a b) with q | q
    · rw [q, Nat.zero_add] at hpos
      obtain ⟨y, hy, hp⟩ := sumR_pos hpos
      rw [Nat.zero_add] at hp
      unfold sum2 at hp
      obtain ⟨x, hx, hp⟩ := sumR_pos hp
      rw [Nat.zero_add] at hp
      obtain ⟨z, hz, hp⟩ := sumR_pos hp
      rw [Nat.zero_add] at hp
      unfold tS at hp
      have p1 := Nat.pos_of_mul_pos_left hp
      have p2 := Nat.pos_of_mul_pos_right hp
      have p3 := Nat.pos_of_mul_pos_left p2
      have p4 := Nat.pos_of_mul_pos_right p2
      have b1 := ih y (by omega) x a (a + y) (by omega) hx (by omega) (by omega) p3
      have b2 := ih (b - (a + 1 + y)) (by omega) z (a + 1 + y) b rfl hz (by omega) hb p1
      have g3 := g2 y x z hy hx hz
      refine Nat.lt_of_lt_of_le ?_ g3
      exact Nat.mul_pos (Nat.mul_pos p4 b1) b2
    · exact Nat.lt_of_lt_of_le q g1
def okSt (q n : Nat) (S : List (Nat × Nat × Nat)) : Prop := ∀ x, x ∈ S → x.1 < q ∧ x.2.1 ≤ x.2.2 ∧ x.2.2 < n
theorem pick_rel {k k' : hK} {be be' : hG} {n kd i j e x y : Nat} (hq : k'.2.2 = k.2.2) (hru : ∀ a b c, a < k.2.2 → b < k.2.2 → c < k.2.2 → k.1 a (b * 4 + c) = k'.1 a (b * 4 + c)) (hbe : ∀ kk a b, kk < k.2.2 → a ≤ b → b < n → be kk (a * 6 + b) = be' kk (a * 6 + b)) (hkd : kd < k.2.2) (hj : j < n) (h : isPick k be kd i j e x y) : isPick k' be' kd i j e x y := by
  obtain ⟨h1, h2, h3, h4, h5⟩ := h
  have ht : ∀ y1 a c, y1 < j - i → a < k.2.2 → c < k.2.2 → tT k be kd i j y1 a c = tT k' be' kd i j y1 a c := by
    intro y1 a c hy ha hc
    unfold tT tS
    rw [hru kd a c hkd ha hc, hbe a i (i + y1) ha (by omega) (by omega), hbe c (i + 1 + y1) j hc (by omega) hj]
  have hb := hbe kd i j hkd (by omega) hj
  refine ⟨h1, by omega, by omega, ?_, fun y1 a c hl hc ha => ?_⟩
  · rw [← ht e x y h1 h2 h3, h4, hb]
  · rw [← ht y1 a c (by omega) (by omega) (by omega), ← hb]
    exact h5 y1 a c hl (by omega) (by omega)
theorem tells_rel {k k' : hK} {be be' : hG} {n : Nat} (hq : k'.2.2 = k.2.2) (hru : ∀ a b c, a < k.2.2 → b < k.2.2 → c < k.2.2 → k.1 a (b * 4 + c) = k'.1 a (b * 4 + c)) (hbe : ∀ kk a b, kk < k.2.2 → a ≤ b → b < n → be kk (a * 6 + b) = be' kk (a * 6 + b)) : ∀ (m : Nat) (S : List (Nat × Nat × Nat)) (v : Nat), okSt k.2.2 n S → tellsAt k be m S v → tellsAt k' be' m S v := by
  have hst : ∀ (S : List (Nat × Nat × Nat)) (v : Nat) (S1 : List (Nat × Nat × Nat)), okSt k.2.2 n S → tellStep k be S v S1 → tellStep k' be' S v S1 ∧ okSt k.2.2 n S1 := by
    intro S v S1 hS h
    cases S with
    | nil => exact h.elim
    | cons a R =>
      obtain ⟨kd, i, j⟩ := a
      obtain ⟨h1, h2, h3⟩ := hS (kd, i, j) (List.mem_cons_self)
      have h1 : kd < k.2.2 := h1
      have h2 : i ≤ j := h2
      have h3 : j < n := h3
      have hR : okSt k.2.2 n R := fun x hx => hS x (List.mem_cons_of_mem _ hx)
      rcases h with ⟨e1, e2, e3⟩ | ⟨e1, e, x, y, hp, e2, e3⟩
      · exact ⟨Or.inl ⟨e1, e2, e3⟩, by rw [e3]; exact hR⟩
      · refine ⟨Or.inr ⟨e1, e, x, y, pick_rel hq hru hbe h1 h3 hp, e2, e3⟩, ?_⟩
        rw [e3]
        have he := hp.1
        intro z hz
        rcases List.mem_cons.mp hz with rfl | hz
        · exact ⟨hp.2.1, by show i ≤ i + e; omega, by show i + e < n; omega⟩
        · rcases List.mem_cons.mp hz with rfl | hz
          · exact ⟨hp.2.2.1, by show i + 1 + e ≤ j; omega, h3⟩
          · exact hR z hz
  intro m
  induction m with
  | zero =>
    rintro S v hS ⟨S1, h⟩
    exact ⟨S1, (hst S v S1 hS h).1⟩
  | succ m ih =>
    rintro S v hS ⟨u, S1, h, h2⟩
    obtain ⟨g1, g2⟩ := hst S u S1 hS h
    exact ⟨u, S1, g1, ih S1 v g2 h2⟩
theorem eq_tells {r : hR} {k : hK} {mk : hA} {mp : hP} (h : relT r k mk mp) {su ct be : hG} {mq : hF} (h1 : okT k r su ct be) (h2 : okF mk mp mq) {kd num u v : Nat} (hk : kd < k.2.2) (hn0 : 0 < r.2.2) (hu : tellsAt k be num [(kd, 0, r.2.2 - 1)] u) (hv : tellsAt (vK mk) (vT mq.2.2) num [(kd, 0, mp.1 - 1)] v) : u = v := by
  have hq := h.2.1.1
  rw [relT_n h] at hv
  refine tellsAt_eq (tells_rel (k' := vK mk) (be' := vT mq.2.2) (n := r.2.2) h.2.2.1.1.symm (fun a b c ha hb hc => h.2.2.1.2.1 a b c (by omega) (by omega) (by omega)) (fun kk a b hk hab hb => (relT_eq h h1 h2 hk hab hb).2.2) num _ u (fun x hx => ?_) hu) hv
  rw [List.mem_singleton] at hx
  subst hx
  exact ⟨hk, Nat.zero_le _, by show r.2.2 - 1 < r.2.2; omega⟩
def eqZ (k : hK) (r : hR) (al : Nat → Prop) (i j : Nat) (su : hG) : Prop := ∀ kk a b, kk < k.2.2 → a ≤ b → b < r.2.2 → (a = i ∧ b = j ∧ al kk → su kk (a * 6 + b) = 0) ∧ (¬ (a = i ∧ b = j ∧ al kk) → su kk (a * 6 + b) = fS k su (lfR k r kk a b) kk a b (b - a))
theorem fS_k {k k' : hK} {r r' : hR} {su : hG} {kk a b : Nat} (hq : k'.2.2 = k.2.2) (hru : ∀ a b c, a < k.2.2 → b < k.2.2 → c < k.2.2 → k.1 a (b * 4 + c) = k'.1 a (b * 4 + c)) (hlf : leaR k kk (r.1 a) = leaR k' kk (r'.1 a)) (hk : kk < k.2.2) (e : Nat) : fS k su (lfR k r kk a b) kk a b e = fS k' su (lfR k' r' kk a b) kk a b e := by
  unfold fS lfR
  rw [hlf, hq]
  congr 1
  refine sumR_congr (fun y hy => sum2_congr (fun x z hx hz => ?_))
  unfold tS
  rw [hru kk x z hk hx hz]
theorem ftM_Z {r : hR} {k : hK} {mk : hA} {mp : hP} (h : relT r k mk mp) {al : Int32} {i j : Nat} {mq : hF} (ha4 : al ≠ nI 4) (hf : ftM mk mp al i j mq) : eqZ k r (fun kk => nI kk ≠ al) i j (vT mq.1) := by
  intro kk a b hk hab hb
  have hq := h.2.1.1
  have h9 := h.2.2.1.1
  have h8 := relT_n h
  have e := (hf kk a b (show kk < mk.1 by omega) hab (show b < mp.1 by omega) trivial).1
  have e2 := fS_k (k := k) (k' := vK mk) (r := r) (r' := vR mp) (su := vT mq.1) (kk := kk) (a := a) (b := b) h.2.2.1.1.symm (fun a b c ha hb hc => h.2.2.1.2.1 a b c (by omega) (by omega) (by omega)) (relT_lea h hk (by omega)) hk (b - a)
  rw [← e2] at e
  unfold zf at e
  constructor
  · rintro ⟨q1, q2, q3⟩
    rw [if_pos ⟨q1, q2, ha4, q3⟩] at e
    exact e
  · intro q
    rw [if_neg (fun u => q ⟨u.1, u.2.1, u.2.2.2⟩)] at e
    exact e
theorem eqZ_le {k : hK} {r : hR} {al : Nat → Prop} {i j : Nat} {su : hG} (h : eqZ k r al i j su) : ∀ kk a b, kk < k.2.2 → a ≤ b → b < r.2.2 → su kk (a * 6 + b) ≤ fS k su (lfR k r kk a b) kk a b (b - a) := by
  intro kk a b h1 h2 h3
  by_cases q : a = i ∧ b = j ∧ al kk
  · rw [(h kk a b h1 h2 h3).1 q]
    exact Nat.zero_le _
  · exact Nat.le_of_eq ((h kk a b h1 h2 h3).2 q)
theorem eqZ_out {k : hK} {r : hR} {al : Nat → Prop} {i j : Nat} {su su1 ct be : hG} (h0 : okT k r su ct be) (h : eqZ k r al i j su1) : ∀ d kk a b, b - a = d → kk < k.2.2 → a ≤ b → b < r.2.2 → ¬ (a ≤ i ∧ j ≤ b) → su1 kk (a * 6 + b) = su kk (a * 6 + b) := by
  intro d
  induction d using Nat.strongRecOn with
  | ind d ih =>
    intro kk a b hd hkk hab hb hno
    rw [(h kk a b hkk hab hb).2 (fun q => hno ⟨by omega, by omega⟩), (h0 kk a b hkk hab hb trivial).1]
    unfold fS
    congr 1
    refine sumR_congr (fun y hy => sum2_congr (fun x z hx hz => ?_))
    unfold tS
    rw [Nat.zero_add, ih y (by omega) x a (a + y) (by omega) hx (by omega) (by omega) (by omega), ih (b - (a + 1 + y)) (by omega) z (a + 1 + y) b rfl hz (by omega) hb (by omega)]
theorem sum2_plus (S T : Nat → Nat → Nat) (q : Nat) : sum2 (fun b c => S b c + T b c) q = sum2 S q + sum2 T q := by
  unfold sum2
  rw [← sumR_plus]
  exact sumR_congr (fun b hb => sumR_plus _ _ _ _)
theorem split3 (g : Nat → Nat) {a b i j : Nat} (hai : a ≤ i) (hij : i ≤ j) (hjb : j ≤ b) : sumR g 0 (b - a) = sumR g 0 (i - a) + sumR g (i - a) (j - i) + sumR g (j - a) (b - j) := by
  have e : b - a = (i - a) + (j - i) + (b - j) := by omega
  rw [e, sumR_add, sumR_add, Nat.zero_add, Nat.zero_add, show i - a + (j - i) = j - a by omega]
theorem span_sum {k : hK} {r : hR} {wn i j : Nat} {su ct be ha su1 su2 : hG} (hij : i ≤ j) (hwn : wn < k.2.2) (h0 : okT k r su ct be) (hH : invH k r.2.2 su ha wn i j (fun _ _ => True)) (h1 : eqZ k r (fun kk => kk ≠ wn) i j su1) (h2 : eqZ k r (fun _ => True) i j su2) : ∀ d kk a b, b - a = d → kk < k.2.2 → a ≤ i → j ≤ b → b < r.2.2 → su1 kk (a * 6 + b) = su2 kk (a * 6 + b) + ha kk (a * 6 + b) := by
  intro d
  induction d using Nat.strongRecOn with
  | ind d ih =>
    intro kk a b hd hkk hai hjb hb
    have hh := hH kk a b hkk hai hjb hb trivial
    by_cases hq : a = i ∧ b = j
    · obtain ⟨rfl, rfl⟩ := hq
      rw [if_pos ⟨rfl, rfl⟩] at hh
      rw [(h2 kk a b hkk hij hb).1 ⟨rfl, rfl, trivial⟩, Nat.zero_add, hh]
      by_cases e : kk = wn
      · subst e
        rw [if_pos rfl, (h1 kk a b hkk hij hb).2 (fun q => q.2.2 rfl), (h0 kk a b hkk hij hb trivial).1]
        unfold fS
        congr 1
        refine sumR_congr (fun y hy => sum2_congr (fun x z hx hz => ?_))
        unfold tS
        rw [Nat.zero_add, eqZ_out h0 h1 y x a (a + y) (by omega) hx (by omega) (by omega) (by omega), eqZ_out h0 h1 (b - (a + 1 + y)) z (a + 1 + y) b rfl hz (by omega) hb (by omega)]
      · rw [if_neg e, (h1 kk a b hkk hij hb).1 ⟨rfl, rfl, e⟩]
    · rw [if_neg hq] at hh
      rw [(h1 kk a b hkk (by omega) hb).2 (fun q => hq ⟨q.1, q.2.1⟩), (h2 kk a b hkk (by omega) hb).2 (fun q => hq ⟨q.1, q.2.1⟩), hh]
      unfold fS hvF
      rw [split3 _ hai hij hjb, split3 (fun y => sum2 (tS k.1 su2 kk (a * 6 + (a + y)) ((a + 1 + y) * 6 + b)) k.2.2) hai hij hjb]
      have p1 : sumR (fun y => sum2 (tS k.1 su1 kk (a * 6 + (a + y)) ((a + 1 + y) * 6 + b)) k.2.2) 0 (i - a) = sumR (fun y => sum2 (tS k.1 su2 kk (a * 6 + (a + y)) ((a + 1 + y) * 6 + b)) k.2.2) 0 (i - a) + sumR (fun y => sum2 (tG k.1 su ha kk (a * 6 + (a + y)) ((a + 1 + y) * 6 + b)) k.2.2) 0 (i - a) := by
        rw [← sumR_plus]
        refine sumR_congr (fun y hy => ?_)
        simp only [Nat.zero_add]
        rw [← sum2_plus]
        refine sum2_congr (fun x z hx hz => ?_)
        unfold tS tG
        rw [eqZ_out h0 h1 y x a (a + y) (by omega) hx (by omega) (by omega) (by omega), eqZ_out h0 h2 y x a (a + y) (by omega) hx (by omega) (by omega) (by omega), ih (b - (a + 1 + y)) (by omega) z (a + 1 + y) b rfl hz (by omega) hjb hb, Nat.mul_add]
      have p2 : sumR (fun y => sum2 (tS k.1 su1 kk (a * 6 + (a + y)) ((a + 1 + y) * 6 + b)) k.2.2) (i - a) (j - i) = sumR (fun y => sum2 (tS k.1 su2 kk (a * 6 + (a + y)) ((a + 1 + y) * 6 + b)) k.2.2) (i - a) (j - i) := by
        refine sumR_congr (fun y hy => sum2_congr (fun x z hx hz => ?_))
        unfold tS
        rw [eqZ_out h0 h1 (i - a + y) x a (a + (i - a + y)) (by omega) hx (by omega) (by omega) (by omega), eqZ_out h0 h2 (i - a + y) x a (a + (i - a + y)) (by omega) hx (by omega) (by omega) (by omega), eqZ_out h0 h1 (b - (a + 1 + (i - a + y))) z (a + 1 + (i - a + y)) b rfl hz (by omega) hb (by omega), eqZ_out h0 h2 (b - (a + 1 + (i - a + y))) z (a + 1 + (i - a + y)) b rfl hz (by omega) hb (by omega)]
      have p3 : sumR (fun y => sum2 (tS k.1 su1 kk (a * 6 + (a + y)) ((a + 1 + y) * 6 + b)) k.2.2) (j - a) (b - j) = sumR (fun y => sum2 (tS k.1 su2 kk (a * 6 + (a + y)) ((a + 1 + y) * 6 + b)) k.2.2) (j - a) (b - j) + sumR (fun y => sum2 (tG k.1 ha su kk (a * 6 + (j + y)) ((j + 1 + y) * 6 + b)) k.2.2) 0 (b - j) := by
        rw [sumR_sh0 _ (j - a), sumR_sh0 (fun y => sum2 (tS k.1 su2 kk (a * 6 + (a + y)) ((a + 1 + y) * 6 + b)) k.2.2) (j - a), ← sumR_plus]
        refine sumR_congr (fun y hy => ?_)
        simp only [Nat.zero_add]
        rw [← sum2_plus]
        refine sum2_congr (fun x z hx hz => ?_)
        unfold tS tG
        rw [show a + (j - a + y) = j + y by omega, show a + 1 + (j - a + y) = j + 1 + y by omega]
        rw [eqZ_out h0 h1 (b - (j + 1 + y)) z (j + 1 + y) b rfl hz (by omega) hb (by omega), eqZ_out h0 h2 (b - (j + 1 + y)) z (j + 1 + y) b rfl hz (by omega) hb (by omega), ih (j + y - a) (by omega) x a (j + y) rfl hx hai (by omega) (by omega), Nat.mul_add, Nat.add_mul]
      rw [p1, p2, p3]
      omega
theorem ha_le {k : hK} {r : hR} {wn i j : Nat} {su ct be ha : hG} (hij : i ≤ j) (h0 : okT k r su ct be) (hH : invH k r.2.2 su ha wn i j (fun _ _ => True)) : ∀ d kk a b, b - a = d → kk < k.2.2 → a ≤ i → j ≤ b → b < r.2.2 → ha kk (a * 6 + b) ≤ su kk (a * 6 + b) := by
  intro d
  induction d using Nat.strongRecOn with
  | ind d ih =>
    intro kk a b hd hkk hai hjb hb
    have hh := hH kk a b hkk hai hjb hb trivial
    by_cases hq : a = i ∧ b = j
    · obtain ⟨rfl, rfl⟩ := hq
      rw [if_pos ⟨rfl, rfl⟩] at hh
      rw [hh]
      split
      · next e => rw [e]; exact Nat.le_refl _
      · exact Nat.zero_le _
    · rw [if_neg hq] at hh
      rw [hh, (h0 kk a b hkk (by omega) hb trivial).1]
      unfold fS hvF
      rw [split3 _ hai hij hjb]
      have p1 : sumR (fun y => sum2 (tG k.1 su ha kk (a * 6 + (a + y)) ((a + 1 + y) * 6 + b)) k.2.2) 0 (i - a) ≤ sumR (fun y => sum2 (tS k.1 su kk (a * 6 + (a + y)) ((a + 1 + y) * 6 + b)) k.2.2) 0 (i - a) := by
        refine sumR_mono1 (fun y hy => ?_)
        unfold sum2
        refine sumR_mono1 (fun x hx => sumR_mono1 (fun z hz => ?_))
        simp only [Nat.zero_add]
        unfold tS tG
        exact Nat.mul_le_mul_left _ (ih (b - (a + 1 + y)) (by omega) z (a + 1 + y) b rfl hz (by omega) hjb hb)
      have p3 : sumR (fun y => sum2 (tG k.1 ha su kk (a * 6 + (j + y)) ((j + 1 + y) * 6 + b)) k.2.2) 0 (b - j) ≤ sumR (fun y => sum2 (tS k.1 su kk (a * 6 + (a + y)) ((a + 1 + y) * 6 + b)) k.2.2) (j - a) (b - j) := by
        rw [sumR_sh0 _ (j - a)]
        refine sumR_mono1 (fun y hy => ?_)
        unfold sum2
        refine sumR_mono1 (fun x hx => sumR_mono1 (fun z hz => ?_))
        simp only [Nat.zero_add]
        unfold tS tG
        rw [show a + (j - a + y) = j + y by omega, show a + 1 + (j - a + y) = j + 1 + y by omega]
        exact Nat.mul_le_mul_right _ (Nat.mul_le_mul_left _ (ih (j + y - a) (by omega) x a (j + y) rfl hx hai (by omega) (by omega)))
      omega
theorem eqZ_mono {k : hK} {r : hR} {i j : Nat} {al : Nat → Prop} {su1 su2 : hG} (h1 : eqZ k r al i j su1) (h2 : eqZ k r (fun _ => True) i j su2) : ∀ d kk a b, b - a = d → kk < k.2.2 → a ≤ b → b < r.2.2 → su2 kk (a * 6 + b) ≤ su1 kk (a * 6 + b) := by
  intro d
  induction d using Nat.strongRecOn with
  | ind d ih =>
    intro kk a b hd hkk hab hb
    by_cases q : a = i ∧ b = j
    · rw [(h2 kk a b hkk hab hb).1 ⟨q.1, q.2, trivial⟩]
      exact Nat.zero_le _
    · rw [(h1 kk a b hkk hab hb).2 (fun u => q ⟨u.1, u.2.1⟩), (h2 kk a b hkk hab hb).2 (fun u => q ⟨u.1, u.2.1⟩)]
      unfold fS
      refine Nat.add_le_add_left ?_ _
      refine sumR_mono1 (fun y hy => ?_)
      unfold sum2
      refine sumR_mono1 (fun x hx => sumR_mono1 (fun z hz => ?_))
      simp only [Nat.zero_add]
      unfold tS
      exact Nat.mul_le_mul (Nat.mul_le_mul_left _ (ih y (by omega) x a (a + y) (by omega) hx (by omega) (by omega))) (ih (b - (a + 1 + y)) (by omega) z (a + 1 + y) b rfl hz (by omega) hb)
theorem nI4 {a b : Nat} (ha : a < 5) (hb : b < 5) : nI a = nI b ↔ a = b := by
  constructor
  · intro h
    rcases (show a = 0 ∨ a = 1 ∨ a = 2 ∨ a = 3 ∨ a = 4 by omega) with rfl | rfl | rfl | rfl | rfl <;> rcases (show b = 0 ∨ b = 1 ∨ b = 2 ∨ b = 3 ∨ b = 4 by omega) with rfl | rfl | rfl | rfl | rfl <;> first | rfl | exact absurd h (by decide)
  · intro h
    rw [h]
theorem ftM_1 {r : hR} {k : hK} {mk : hA} {mp : hP} (h : relT r k mk mp) {wn i j : Nat} {mq : hF} (hwn : wn < k.2.2) (hf : ftM mk mp (nI wn) i j mq) : eqZ k r (fun kk => kk ≠ wn) i j (vT mq.1) := by
  have hq := h.2.1.1
  have e := ftM_Z h (fun q => by have := (nI4 (by omega) (by omega)).mp q; omega) hf
  intro kk a b h1 h2 h3
  have e1 := e kk a b h1 h2 h3
  have hi : nI kk ≠ nI wn ↔ kk ≠ wn := not_congr (nI4 (by omega) (by omega))
  exact ⟨fun u => e1.1 ⟨u.1, u.2.1, hi.mpr u.2.2⟩, fun u => e1.2 (fun v => u ⟨v.1, v.2.1, hi.mp v.2.2⟩)⟩
theorem ftM_2 {r : hR} {k : hK} {mk : hA} {mp : hP} (h : relT r k mk mp) {i j : Nat} {mq : hF} (hf : ftM mk mp (-1) i j mq) : eqZ k r (fun _ => True) i j (vT mq.1) := by
  have hq := h.2.1.1
  have e := ftM_Z h (by decide) hf
  intro kk a b h1 h2 h3
  have e1 := e kk a b h1 h2 h3
  have hi : nI kk ≠ -1 := nm4 (by omega)
  exact ⟨fun u => e1.1 ⟨u.1, u.2.1, hi⟩, fun u => e1.2 (fun v => u ⟨v.1, v.2.1, trivial⟩)⟩
theorem span_hd {r : hR} {k : hK} {mk : hA} {mp : hP} (h : relT r k mk mp) {kd wn i j : Nat} (hk : kd < k.2.2) (hwn : wn < k.2.2) (hn0 : 0 < r.2.2) : ∀ mq1 mq2 : hF, ftM mk mp (nI wn) i j mq1 → ftM mk mp (-1) i j mq2 → allT mp mq2.1 kd ≤ allT mp mq1.1 kd ∧ allT mp mq1.1 kd - allT mp mq2.1 kd < 2 ^ 63 := by
  intro mq1 mq2 f1 f2
  have e1 := ftM_1 h hwn f1
  have e2 := ftM_2 h f2
  unfold allT
  rw [relT_n h, if_neg (by omega), if_neg (by omega)]
  have a1 := eqZ_mono e1 e2 _ kd 0 (r.2.2 - 1) rfl hk (by omega) (by omega)
  have a2 := su_le h.2.1 h.1 (eqZ_le e1) _ kd 0 (r.2.2 - 1) rfl hk (by omega) (by omega)
  have a3 := U6_lt (r.2.2 - 1 - 0)
  exact ⟨a1, by omega⟩
theorem span_hA {k : hK} {r : hR} {kd wn i j : Nat} (hK : okK k) (hr : okR r) (hk : kd < k.2.2) (hij : i ≤ j) (hj : j < r.2.2) : ∀ su ct be ha, okT k r su ct be → invH k r.2.2 su ha wn i j (fun _ _ => True) → ha kd (0 * 6 + (r.2.2 - 1)) < 2 ^ 63 := by
  intro su ct be ha h0 hH
  have a1 := ha_le hij h0 hH _ kd 0 (r.2.2 - 1) rfl hk (by omega) (by omega) (by omega)
  have a2 := su_le hK hr (fun kk a b h1 h2 h3 => Nat.le_of_eq (h0 kk a b h1 h2 h3 trivial).1) _ kd 0 (r.2.2 - 1) rfl hk (by omega) (by omega)
  have a3 := U6_lt (r.2.2 - 1 - 0)
  omega
theorem eq_span {r : hR} {k : hK} {mk : hA} {mp : hP} (h : relT r k mk mp) {kd wn i j : Nat} (hk : kd < k.2.2) (hwn : wn < k.2.2) (hij : i ≤ j) (hj : j < r.2.2) {su ct be ha : hG} {mq1 mq2 : hF} (h0 : okT k r su ct be) (hH : invH k r.2.2 su ha wn i j (fun _ _ => True)) (f1 : ftM mk mp (nI wn) i j mq1) (f2 : ftM mk mp (-1) i j mq2) : ha kd (0 * 6 + (r.2.2 - 1)) = allT mp mq1.1 kd - allT mp mq2.1 kd := by
  have e := span_sum hij hwn h0 hH (ftM_1 h hwn f1) (ftM_2 h f2) _ kd 0 (r.2.2 - 1) rfl hk (by omega) (by omega) (by omega)
  unfold allT
  rw [relT_n h, if_neg (by omega), if_neg (by omega), e]
  omega
