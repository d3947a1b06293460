theorem con_mono {E : ab_E} {l : Launch} {y : MethodName} {bytes : ByteArray} {maxL : Nat} {ret : Option FieldType} {fr lo : Nat} {av : List Value} {h : List ab_C} {mc ms : Nat} {P Q : Option Value → List ab_C → Prop} (hC : ab_Con E l y bytes maxL ret fr lo av h mc ms P) (hPQ : ∀ v h1, P v h1 → Q v h1) : ab_Con E l y bytes maxL ret fr lo av h mc ms Q := by
  intro p e ha hf1 hf2 s m args below h1 h2 h3 h4
  obtain ⟨n, o, a1, a2, a3, ⟨r, h9, q1, q2, q3⟩, a5⟩ := hC p e ha hf1 hf2 s m args below h1 h2 h3 h4
  exact ⟨n, o, a1, a2, a3, ⟨r, h9, q1, hPQ _ _ q2, q3⟩, a5⟩
theorem TS_Dm_le {mu : Nat → Nat → Bool} {D : Nat → Nat → Nat → Nat → Nat} {fin : Nat → Nat → Nat} {n l t : Nat} : TS (Dm mu D) fin n n l t ≤ TS D fin n n l t := by
  unfold TS
  refine sumR_mono1 (fun c hc => ?_)
  rw [Nat.zero_add]
  by_cases h : ∀ j, j < n → mu (n - n + j) (dgt n c j) = true
  · rw [tw_y n l t c (Nat.le_refl _) hc h]
    exact Nat.le_refl _
  · rw [tw_n n l t c (Nat.le_refl _) hc h]
    exact Nat.zero_le _
theorem masked_lt {r : hR} {s : hS} {ms : hA} {mp : hP} {w : hW} (h : relW r s ms mp) (hw : okW id r s w) (hn0 : 0 < r.2.2) (mu : Nat → Nat → Bool) : TS (Dm mu (dW id s w.1)) (fnW id s) r.2.2 r.2.2 0 0 < 2 ^ 63 := by
  refine Nat.lt_of_le_of_lt TS_Dm_le ?_
  rw [← relW_sum h hw.1 hn0]
  have e := relW_lt h
  rw [relW_n h] at e
  unfold FB at e
  rw [if_neg (by omega)] at e
  exact e
theorem lt_over {r : hR} {s : hS} {ms : hA} {mp : hP} {w : hW} (h : relW r s ms mp) (hw : okW id r s w) {p st : Nat} (hp : p < r.2.2) (hst : st < s.2.2) : sumR (fun y => w.2.2.2.2.1 y st * lonR id s r.2.2 w.1 w.2.2.1 (p - y) y st) (p - 2) (p + 1 - (p - 2)) < 2 ^ 63 := by
  rw [← over_TS h.2.2.1.1 hw hp hst]
  exact masked_lt h hw (by omega) _
theorem lt_beg {r : hR} {s : hS} {ms : hA} {mp : hP} {w : hW} (h : relW r s ms mp) (hw : okW id r s w) {p st : Nat} (hp : p < r.2.2) (hst : st < s.2.2) : w.2.2.2.2.1 p st * w.2.1 p st < 2 ^ 63 := by
  rw [← begin_TS h.2.2.1.1 hw hp hst]
  exact masked_lt h hw (by omega) _
theorem lt_mov {r : hR} {s : hS} {ms : hA} {mp : hP} {w : hW} (h : relW r s ms mp) (hw : okW id r s w) {p a z : Nat} (hp : p + 1 < r.2.2) (ha : a < s.2.2) (hz : z < s.2.2) : w.2.2.2.1 (p + 1) a * id (s.2.1 a z) * w.2.1 (p + 1) z < 2 ^ 63 := by
  rw [← moving_TS h.2.2.1.1 hw hp ha hz]
  exact masked_lt h hw (by omega) _
theorem lt_tot {r : hR} {s : hS} {ms : hA} {mp : hP} (h : relW r s ms mp) : ∀ w1, okW id r s w1 → (if r.2.2 = 0 then 0 else sumR (fun y => w1.2.2.2.2.1 0 y * w1.2.1 0 y) 0 s.2.2) < 2 ^ 63 := fun w1 hw => by
  rw [eq_total h hw]
  exact relW_lt h
def sA (h : List ab_C) : Prop := ∃ (r : hR) (s : hS) (w c : hW) (b : hB) (d : hD) (k : hK) (t : hT) (ms mk : hA) (mp : hP) (mw : Nat → Int32) (mc : hC) (md : Nat × (Nat → Int32)) (mt : hF) (me : hE), h = hc r s w c b d k t ++ hm ms mk mp mw mc md mt me ∧ relA r s w c b d k t ms mk mp mc md
def hO (h : List ab_C) : Prop := (∃ fs, h[0]? = some (.inr (0, fs))) ∧ ∃ fs, h[203]? = some (.inr (9, fs))
theorem hO_mk {r : hR} {s : hS} {w c : hW} {b : hB} {d : hD} {k : hK} {t : hT} {ms mk : hA} {mp : hP} {mw : Nat → Int32} {mc : hC} {md : Nat × (Nat → Int32)} {mt : hF} {me : hE} : hO (hc r s w c b d k t ++ hm ms mk mp mw mc md mt me) := ⟨⟨_, hq_0⟩, ⟨_, mq_203⟩⟩
def JN (E : ab_E) (l : Launch) (y1 y2 : MethodName) (b1 b2 : ByteArray) (n1 n2 : Nat) (ret : FieldType) (f1 l1 f2 l2 : Nat) (α : Type) (W : α → Value) (A : List Value) (h : List ab_C) : Prop :=
  ∃ P1, ab_Con E l y1 b1 n1 (some ret) f1 l1 (.ref 1 :: A) h 0 0 P1 ∧ ∀ v h1, P1 v h1 → hO h1 ∧ (∃ u : α, v = some (W u)) ∧ ∃ P2, ab_Con E l y2 b2 n2 (some ret) f2 l2 (.ref 204 :: A) h1 0 0 P2 ∧ ∀ v2 h2, P2 v2 h2 → v2 = v ∧ sA h2
section JNS
variable {E : ab_E} {l : Launch} {y1 y2 : MethodName} {b1 b2 : ByteArray} {n1 n2 : Nat} {ret : FieldType} {f1 l1 f2 l2 : Nat} {α : Type} {W : α → Value} {A : List Value}
theorem jn_step {h hA hB : List ab_C} {u u2 : α} (c1 : ab_Con E l y1 b1 n1 (some ret) f1 l1 (.ref 1 :: A) h 0 0 (fun v h1 => v = some (W u) ∧ h1 = hA)) (c2 : ab_Con E l y2 b2 n2 (some ret) f2 l2 (.ref 204 :: A) hA 0 0 (fun v h1 => v = some (W u2) ∧ h1 = hB)) (e : u2 = u) (ho : hO hA) (hs : sA hB) : JN E l y1 y2 b1 b2 n1 n2 ret f1 l1 f2 l2 α W A h :=
  ⟨_, c1, fun v h1 hp => by
    obtain ⟨rfl, rfl⟩ := hp
    exact ⟨ho, ⟨u, rfl⟩, _, c2, fun v2 h2 hp2 => by
      obtain ⟨rfl, rfl⟩ := hp2
      exact ⟨by rw [e], hs⟩⟩⟩
theorem jn_same {r : hR} {s : hS} {w c : hW} {b : hB} {d : hD} {k : hK} {t : hT} {ms mk : hA} {mp : hP} {mw : Nat → Int32} {mc : hC} {md : Nat × (Nat → Int32)} {mt : hF} {me : hE} {u : α} (hs : relA r s w c b d k t ms mk mp mc md) (c1 : ab_Con E l y1 b1 n1 (some ret) f1 l1 (.ref 1 :: A) (hc r s w c b d k t ++ hm ms mk mp mw mc md mt me) 0 0 (fun v h1 => v = some (W u) ∧ h1 = hc r s w c b d k t ++ hm ms mk mp mw mc md mt me)) (c2 : ab_Con E l y2 b2 n2 (some ret) f2 l2 (.ref 204 :: A) (hc r s w c b d k t ++ hm ms mk mp mw mc md mt me) 0 0 (fun v h1 => v = some (W u) ∧ h1 = hc r s w c b d k t ++ hm ms mk mp mw mc md mt me)) : JN E l y1 y2 b1 b2 n1 n2 ret f1 l1 f2 l2 α W A (hc r s w c b d k t ++ hm ms mk mp mw mc md mt me) :=
  jn_step c1 c2 rfl hO_mk ⟨r, s, w, c, b, d, k, t, ms, mk, mp, mw, mc, md, mt, me, rfl, hs⟩
end JNS
section REL
variable {r : hR} {s : hS} {w c : hW} {b : hB} {d : hD} {k : hK} {t : hT} {ms mk : hA} {mp : hP} {mw : Nat → Int32} {mc : hC} {md : Nat × (Nat → Int32)} {mt : hF} {me : hE}
theorem sA_mk (h : relA r s w c b d k t ms mk mp mc md) : sA (hc r s w c b d k t ++ hm ms mk mp mw mc md mt me) := ⟨r, s, w, c, b, d, k, t, ms, mk, mp, mw, mc, md, mt, me, rfl, h⟩
theorem relA_w {w1 : hW} (h : relA r s w c b d k t ms mk mp mc md) (h1 : okW id r s w1) (h2 : w1.2.2.2.2.2 = 1) : relA r s w1 c b d k t ms mk mp mc md := by
  obtain ⟨a1, a2, a3, a4, a5, a6, a7, a8, a9, a10, a11⟩ := h
  exact ⟨a1, a2, a3, a4, a5, Or.inr ⟨h2, h1⟩, a7, a8, a9, a10, a11⟩
theorem relA_c {w1 : hW} (h : relA r s w c b d k t ms mk mp mc md) (h1 : okW cuC r s w1) (h2 : w1.2.2.2.2.2 = 1) : relA r s w w1 b d k t ms mk mp mc md := by
  obtain ⟨a1, a2, a3, a4, a5, a6, a7, a8, a9, a10, a11⟩ := h
  exact ⟨a1, a2, a3, a4, a5, a6, Or.inr ⟨h2, h1⟩, a8, a9, a10, a11⟩
theorem relA_b {f : Nat → hL} (h : relA r s w c b d k t ms mk mp mc md) (h1 : Qb r ms mp f) : relA r s w c (f, 1) d k t ms mk mp mc md := by
  obtain ⟨a1, a2, a3, a4, a5, a6, a7, a8, a9, a10, a11⟩ := h
  exact ⟨a1, a2, a3, a4, a5, a6, a7, Or.inr ⟨rfl, h1⟩, a9, a10, a11⟩
theorem relA_d {d1 : hD} {md1 : Nat × (Nat → Int32)} (h : relA r s w c b d k t ms mk mp mc md) (h1 : kD r.2.2 d1 md1) : relA r s w c b d1 k t ms mk mp mc md1 := by
  obtain ⟨a1, a2, a3, a4, a5, a6, a7, a8, a9, a10, a11⟩ := h
  exact ⟨a1, a2, a3, a4, a5, a6, a7, a8, a9, a10, h1⟩
theorem relA_t {t1 : hT} (h : relA r s w c b d k t ms mk mp mc md) (h1 : kT k r t1) : relA r s w c b d k t1 ms mk mp mc md := by
  obtain ⟨a1, a2, a3, a4, a5, a6, a7, a8, a9, a10, a11⟩ := h
  exact ⟨a1, a2, a3, a4, a5, a6, a7, a8, h1, a10, a11⟩
theorem relA_m {mc1 : hC} (h : relA r s w c b d k t ms mk mp mc md) (h1 : knM ms mp mc1) : relA r s w c b d k t ms mk mp mc1 md := by
  obtain ⟨a1, a2, a3, a4, a5, a6, a7, a8, a9, a10, a11⟩ := h
  exact ⟨a1, a2, a3, a4, a5, a6, a7, a8, a9, Or.inr ⟨h1.1, h1⟩, a11⟩
theorem relA_q (h : relA r s w c b d k t ms mk mp mc md) : s.2.2 ≤ 4 ∧ ms.1 = s.2.2 ∧ r.2.2 ≤ 6 ∧ mp.1 = r.2.2 ∧ k.2.2 ≤ 4 ∧ mk.1 = k.2.2 := ⟨h.1.2.2.1.1, h.1.2.2.2.1.1.symm, h.1.1.1, relW_n h.1, h.2.1.2.1.1, h.2.1.2.2.1.1.symm⟩
theorem kT_1 {su ct be : hG} {ha : hG} {wk wp : Nat → Nat} {wt : Nat} (h : okT k r su ct be) : kT k r (su, ct, be, ha, wk, wp, wt, 1) := Or.inr ⟨rfl, h⟩
end REL
theorem topR_congr {f g : Nat → Nat} : ∀ i, (∀ y, y ≤ i → f y = g y) → topR f i = topR g i
  | 0, _ => rfl
  | i + 1, h => by
    have e := topR_congr (f := f) (g := g) i (fun y hy => h y (by omega))
    have h1 := topR_le g i
    show (if f (topR f i) < f (i + 1) then i + 1 else topR f i) = if g (topR g i) < g (i + 1) then i + 1 else topR g i
    rw [e, h (topR g i) (by omega), h (i + 1) (Nat.le_refl _)]
theorem best_v {r : hR} {s : hS} {ms : hA} {mp : hP} (hW : relW r s ms mp) {F : Nat → hL} {mc : hC} (h : Qb r ms mp F) (hA : knM ms mp mc) {kk : Nat} : some (Value.long (if kk < mc.2.2.2.2.2.2.1 then lN (mc.2.2.2.2.2.2.2.1 kk) else -3)) = some (Value.long (if kk < (F 0).2.2 then lN ((F 0).1 kk) else -3)) := by
  obtain ⟨e1, e2⟩ := eq_best hW h hA
  rw [← e1]
  by_cases q : kk < (F 0).2.2
  · rw [if_pos q, if_pos q, (e2 kk q).1]
  · rw [if_neg q, if_neg q]
theorem bestAt_v {r : hR} {s : hS} {ms : hA} {mp : hP} (hW : relW r s ms mp) {F : Nat → hL} {mc : hC} (h : Qb r ms mp F) (hA : knM ms mp mc) {kk p : Nat} (hp : p < mp.1) : some (Value.int (if kk < mc.2.2.2.2.2.2.1 then mc.2.2.2.2.2.2.2.2 (6 * kk + p) else -3)) = some (Value.int (if kk < (F 0).2.2 then nI ((F 0).2.1 kk / 2 ^ (3 * (r.2.2 - 1 - p)) % 8) else -3)) := by
  obtain ⟨e1, e2⟩ := eq_best hW h hA
  rw [← e1]
  by_cases q : kk < (F 0).2.2
  · rw [if_pos q, if_pos q, ← (e2 kk q).2 p hp]
  · rw [if_neg q, if_neg q]
theorem drw_g {r : hR} {s : hS} {ms : hA} {mp : hP} {w : hW} (h : relW r s ms mp) (hw : okW id r s w) (hn0 : 0 < r.2.2) : ∀ c, c < 8 ^ r.2.2 → wtc ms mp c = twW s w.1 r.2.2 r.2.2 0 0 c := fun c hc => relW_tw h hw.1 hn0 hc
theorem drw_T {r : hR} {s : hS} {ms : hA} {mp : hP} (h : relW r s ms mp) (hn0 : 0 < r.2.2) : sumR (wtc ms mp) 0 (8 ^ r.2.2) < 2 ^ 63 := by
  have e := relW_lt h
  rw [relW_n h] at e
  unfold FB at e
  rw [if_neg (by omega)] at e
  exact e
theorem okT_one {k : hK} {r : hR} {su ct be su' ct' be' : hG} (h : okT k r su ct be) (h' : okT k r su' ct' be') {kd : Nat} (hk : kd < k.2.2) : (if r.2.2 = 0 then 0 else su kd (0 * 6 + (r.2.2 - 1))) = if r.2.2 = 0 then 0 else su' kd (0 * 6 + (r.2.2 - 1)) := by
  by_cases hn : r.2.2 = 0
  · rw [if_pos hn, if_pos hn]
  · rw [if_neg hn, if_neg hn]
    exact (okT_eq h h' rfl rfl (fun _ _ _ _ _ _ => rfl) (fun _ _ _ _ => rfl) _ kd 0 (r.2.2 - 1) (Nat.lt_succ_self _) hk (by omega) (by omega)).1
theorem okF_okT {r : hR} {k : hK} {mk : hA} {mp : hP} (h : relT r k mk mp) {mq : hF} (h2 : okF mk mp mq) : okT k r (vT mq.1) (vT mq.2.1) (vT mq.2.2) := by
  have hq := h.2.1.1
  have e := h.2.2.1.1
  have hn := relT_n h
  intro kk a b hk hab hb _
  obtain ⟨e1, e2, e3, e4⟩ := h2 kk a b (show kk < mk.1 by omega) hab (show b < mp.1 by omega) trivial
  have hru : ∀ a b c, a < k.2.2 → b < k.2.2 → c < k.2.2 → k.1 a (b * 4 + c) = (vK mk).1 a (b * 4 + c) := fun a b c ha hb hc => h.2.2.1.2.1 a b c (by omega) (by omega) (by omega)
  have hl : lfR k r kk a b = lfR (vK mk) (vR mp) kk a b := by
    unfold lfR
    rw [relT_lea h hk (by omega)]
  have hqq : (vK mk).2.2 = k.2.2 := e.symm
  refine ⟨?_, ?_, ?_, e4⟩
  · rw [e1, hl]
    unfold fS
    rw [hqq]
    congr 1
    refine sumR_congr (fun y hy => sum2_congr (fun x z hx hz => ?_))
    unfold tS
    rw [hru kk x z hk hx hz]
  · rw [e2, hl]
    unfold fC
    rw [hqq]
    congr 1
    refine sumR_congr (fun y hy => sum2_congr (fun x z hx hz => ?_))
    unfold tC
    rw [hru kk x z hk hx hz]
  · rw [e3, hl]
    have key : ∀ m, fB (vK mk) (vT mq.2.2) (lfR (vK mk) (vR mp) kk a b) kk a b m = fB k (vT mq.2.2) (lfR (vK mk) (vR mp) kk a b) kk a b m := by
      intro m
      induction m with
      | zero => rfl
      | succ m ih =>
        rw [fB_succ, fB_succ, ih, hqq]
        refine max2_congr (fun x z hx hz => ?_)
        unfold tS
        rw [hru kk x z hk hx hz]
    exact key _
theorem okF_lt {r : hR} {k : hK} {mk : hA} {mp : hP} (h : relT r k mk mp) {mq : hF} (h2 : okF mk mp mq) {kd : Nat} (hk : kd < k.2.2) : allT mp mq.1 kd < 2 ^ 63 := by
  have e := okT_lt h.2.1 h.1 (okF_okT h h2) hk
  rw [(eq_trees h (okF_okT h h2) h2 hk).1] at e
  exact e
