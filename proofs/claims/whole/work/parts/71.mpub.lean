def FB (n : Nat) : Nat := if n = 0 then 0 else 8 ^ n
def okM (ms : hA) (mp : hP) : Prop := mp.1 ≤ 6 ∧ ms.1 ≤ 4 ∧ (∀ i, ms.2.1 i ≤ 4) ∧ (∀ i, ms.2.2 i ≤ 4) ∧ ∀ p, p < 6 → mp.2.1 p = -1 ∨ ∃ z, z < 4 ∧ mp.2.1 p = nI z
def knM (ms : hA) (mp : hP) (mc : hC) : Prop := Agg mp.1 (wtc ms mp) (FB mp.1) mc
theorem sumR_mono {f g : Nat → Nat} (h : ∀ c, f c ≤ g c) : ∀ B, sumR f 0 B ≤ sumR g 0 B
  | 0 => Nat.le_refl _
  | B + 1 => by
    rw [sumR_s, sumR_s]
    exact Nat.add_le_add (sumR_mono h B) (h B)
theorem ite_le {p : Prop} [Decidable p] (a : Nat) : (if p then a else 0) ≤ a := by
  split
  · exact Nat.le_refl _
  · exact Nat.zero_le _
theorem Agg_le {n B : Nat} {g : Nat → Nat} {mc : hC} (h : Agg n g B mc) : (∀ j, j < 24 → mc.2.2.2.1 j ≤ mc.2.1) ∧ (∀ j, j < 24 → mc.2.2.2.2.1 j ≤ mc.2.1) ∧ ∀ j, j < 96 → mc.2.2.2.2.2.1 j ≤ mc.2.1 := by
  obtain ⟨-, h1, -, h3, h4, h5, -⟩ := h
  exact ⟨fun j hj => by rw [h3 j hj, h1]; exact sumR_mono (fun c => ite_le _) _, fun j hj => by rw [h4 j hj, h1]; exact sumR_mono (fun c => ite_le _) _, fun j hj => by rw [h5 j hj, h1]; exact sumR_mono (fun c => ite_le _) _⟩
theorem i_n2 {x : Int32} (h : x ≠ 0 ∧ x ≠ nI 1) : x < 0 ∨ ¬ x ≤ nI 1 := by
  by_cases h1 : x < 0
  · exact Or.inl h1
  · refine Or.inr (fun q => ?_)
    rcases pk_ix x (n := 2) (by omega) with g | g | ⟨j, hj, e⟩
    · exact h1 g
    · exact absurd (Int32.le_trans g q) (by decide)
    · rcases (show j = 0 ∨ j = 1 by omega) with rfl | rfl
      · exact h.1 e
      · exact h.2 e
theorem i_n10 {e : Int32} (h : nI 10 ≤ e) : ¬ e ≤ nI 9 := fun q => absurd (Int32.le_trans h q) (by decide)
def topR (f : Nat → Nat) : Nat → Nat
  | 0 => 0
  | i + 1 => if f (topR f i) < f (i + 1) then i + 1 else topR f i
theorem topR_le (f : Nat → Nat) : ∀ i, topR f i ≤ i
  | 0 => Nat.le_refl _
  | i + 1 => by
    have := topR_le f i
    show (if f (topR f i) < f (i + 1) then i + 1 else topR f i) ≤ i + 1
    split <;> omega
set_option maxHeartbeats 4000000 in
set_option maxRecDepth 20000 in
theorem c_Mo_kno1 {E : ab_E} {l : Launch} {r : hR} {s : hS} {w c : hW} {b : hB} {d : hD} {k : hK} {t : hT} {ms mk : hA} {mp : hP} {mw : Nat → Int32} {mc : hC} {md : Nat × (Nat → Int32)} {mt : hF} {me : hE} (hk : mc.1 = 1) (hA : knM ms mp mc) : ab_Con E l y_Mo_know b_Mo_know 4 none 3 68 [.ref 204] (hc r s w c b d k t ++ hm ms mk mp mw mc md mt me) 0 0 (fun v h1 => ∃ (mw1 : Nat → Int32) (mc1 : hC), knM ms mp mc1 ∧ (mc.1 = 1 → mc1 = mc) ∧ v = none ∧ h1 = hc r s w c b d k t ++ hm ms mk mp mw1 mc1 md mt me) := by
  refine ab_con (own := "HiddenRowsModel") (ini := false) (by decide) (fun h => by cases h) rfl (Nat.le_of_ble_eq_true rfl) ?_
  intro G m X
  show ab_R E G m 4 0 0 0 [(0, .ref 204)] [] (hc r s w c b d k t ++ hm ms mk mp mw mc md mt me)
  refine a_aload_n X 0 d_Mo_know_0 rfl rfl ?_
  refine a_get X ff_Mo_68 d_Mo_know_1 mq_203 rfl ?_
  refine a_if_eqN X 8 (by omega) d_Mo_know_4 (by decide) (fun c4 => ?_) (fun c4 => ?_)
  ·
    exact absurd c4 (by omega)
  ·
    exact a_vret X d_Mo_know_7 (Nat.le_refl _) (Nat.le_refl _) ⟨mw, mc, hA, fun _ => rfl, rfl, rfl⟩
theorem c_Mo_kno {E : ab_E} {l : Launch} {r : hR} {s : hS} {w c : hW} {b : hB} {d : hD} {k : hK} {t : hT} {ms mk : hA} {mp : hP} {mw : Nat → Int32} {mc : hC} {md : Nat × (Nat → Int32)} {mt : hF} {me : hE} (hM : okM ms mp) (hk : mc.1 = 0 ∨ mc.1 = 1 ∧ knM ms mp mc) : ab_Con E l y_Mo_know b_Mo_know 4 none 3 68 [.ref 204] (hc r s w c b d k t ++ hm ms mk mp mw mc md mt me) 0 0 (fun v h1 => ∃ (mw1 : Nat → Int32) (mc1 : hC), knM ms mp mc1 ∧ (mc.1 = 1 → mc1 = mc) ∧ v = none ∧ h1 = hc r s w c b d k t ++ hm ms mk mp mw1 mc1 md mt me) := by
  rcases hk with hk | ⟨hk, hA⟩
  · exact c_Mo_kno0 hM.1 hM.2.1 hM.2.2.1 hM.2.2.2.1 hM.2.2.2.2 hk
  · exact c_Mo_kno1 hk hA
set_option maxHeartbeats 4000000 in
set_option maxRecDepth 20000 in
theorem c_Mo_total {E : ab_E} {l : Launch} {r : hR} {s : hS} {w c : hW} {b : hB} {d : hD} {k : hK} {t : hT} {ms mk : hA} {mp : hP} {mw : Nat → Int32} {mc : hC} {md : Nat × (Nat → Int32)} {mt : hF} {me : hE} (hM : okM ms mp) (hk : mc.1 = 0 ∨ mc.1 = 1 ∧ knM ms mp mc) : ab_Con E l y_Mo_total b_Mo_total 1 (some .long) 4 91 [.ref 204] (hc r s w c b d k t ++ hm ms mk mp mw mc md mt me) 0 0 (fun v h1 => ∃ (mw1 : Nat → Int32) (mc1 : hC), knM ms mp mc1 ∧ (mc.1 = 1 → mc1 = mc) ∧ v = some (.long (lN mc1.2.1)) ∧ h1 = hc r s w c b d k t ++ hm ms mk mp mw1 mc1 md mt me) := by
  refine ab_con (own := "HiddenRowsModel") (ini := false) (by decide) (fun h => by cases h) rfl (Nat.le_of_ble_eq_true rfl) ?_
  intro G m X
  show ab_R E G m 1 0 0 0 [(0, .ref 204)] [] (hc r s w c b d k t ++ hm ms mk mp mw mc md mt me)
  refine a_aload_n X 0 d_Mo_total_0 rfl rfl ?_
  refine a_callV X (a := 203) (As := []) mq_203 rfl fb_Mo_know lk_Mo_138 im_Mo_know se_Mo_know (c_Mo_kno hM hk) rfl rfl (Nat.le_of_ble_eq_true rfl) (by decide) (by decide) (Nat.le_refl _) (Nat.le_refl _) d_Mo_total_1 (fun v h1 hp => ?_)
  obtain ⟨mw1, mc1, hA, hsm, rfl, rfl⟩ := hp
  refine a_aload_n X 0 d_Mo_total_4 rfl rfl ?_
  refine a_get X ff_Mo_116 d_Mo_total_5 mq_203 rfl ?_
  exact a_lret X d_Mo_total_8 (Nat.le_refl _) (Nat.le_refl _) ⟨mw1, mc1, hA, hsm, rfl, rfl⟩
set_option maxHeartbeats 4000000 in
set_option maxRecDepth 20000 in
theorem c_Mo_ways {E : ab_E} {l : Launch} {r : hR} {s : hS} {w c : hW} {b : hB} {d : hD} {k : hK} {t : hT} {ms mk : hA} {mp : hP} {mw : Nat → Int32} {mc : hC} {md : Nat × (Nat → Int32)} {mt : hF} {me : hE} (hM : okM ms mp) (hk : mc.1 = 0 ∨ mc.1 = 1 ∧ knM ms mp mc) : ab_Con E l y_Mo_ways b_Mo_ways 1 (some .int) 4 91 [.ref 204] (hc r s w c b d k t ++ hm ms mk mp mw mc md mt me) 0 0 (fun v h1 => ∃ (mw1 : Nat → Int32) (mc1 : hC), knM ms mp mc1 ∧ (mc.1 = 1 → mc1 = mc) ∧ v = some (.int (nI mc1.2.2.1)) ∧ h1 = hc r s w c b d k t ++ hm ms mk mp mw1 mc1 md mt me) := by
  refine ab_con (own := "HiddenRowsModel") (ini := false) (by decide) (fun h => by cases h) rfl (Nat.le_of_ble_eq_true rfl) ?_
  intro G m X
  show ab_R E G m 1 0 0 0 [(0, .ref 204)] [] (hc r s w c b d k t ++ hm ms mk mp mw mc md mt me)
  refine a_aload_n X 0 d_Mo_ways_0 rfl rfl ?_
  refine a_callV X (a := 203) (As := []) mq_203 rfl fb_Mo_know lk_Mo_138 im_Mo_know se_Mo_know (c_Mo_kno hM hk) rfl rfl (Nat.le_of_ble_eq_true rfl) (by decide) (by decide) (Nat.le_refl _) (Nat.le_refl _) d_Mo_ways_1 (fun v h1 hp => ?_)
  obtain ⟨mw1, mc1, hA, hsm, rfl, rfl⟩ := hp
  refine a_aload_n X 0 d_Mo_ways_4 rfl rfl ?_
  refine a_get X ff_Mo_120 d_Mo_ways_5 mq_203 rfl ?_
  exact a_iret X d_Mo_ways_8 (Nat.le_refl _) (Nat.le_refl _) ⟨mw1, mc1, hA, hsm, rfl, rfl⟩
set_option maxHeartbeats 4000000 in
set_option maxRecDepth 20000 in
theorem c_Mo_share_ok {E : ab_E} {l : Launch} {r : hR} {s : hS} {w c : hW} {b : hB} {d : hD} {k : hK} {t : hT} {ms mk : hA} {mp : hP} {mw : Nat → Int32} {mc : hC} {md : Nat × (Nat → Int32)} {mt : hF} {me : hE} {p j pt : Nat} (hM : okM ms mp) (hk : mc.1 = 0 ∨ mc.1 = 1 ∧ knM ms mp mc) (hp : p < mp.1) (hj : j < ms.1) (hpt : pt ≤ 1) (hT : sumR (wtc ms mp) 0 (FB mp.1) < 2 ^ 63) : ab_Con E l y_Mo_share b_Mo_share 4 (some .long) 4 91 [.ref 204, .int (nI p), .int (nI j), .int (nI pt)] (hc r s w c b d k t ++ hm ms mk mp mw mc md mt me) 0 0 (fun v h1 => ∃ (mw1 : Nat → Int32) (mc1 : hC), knM ms mp mc1 ∧ (mc.1 = 1 → mc1 = mc) ∧ v = some (.long (lowR (mc1.2.2.2.1 (4 * p + j)) mc1.2.1 pt)) ∧ h1 = hc r s w c b d k t ++ hm ms mk mp mw1 mc1 md mt me) := by
  have hn := hM.1
  have hq := hM.2.1
  refine ab_con (own := "HiddenRowsModel") (ini := false) (by decide) (fun h => by cases h) rfl (Nat.le_of_ble_eq_true rfl) ?_
  intro G m X
  show ab_R E G m 4 0 0 0 [(0, .ref 204), (1, .int (nI p)), (2, .int (nI j)), (3, .int (nI pt))] [] (hc r s w c b d k t ++ hm ms mk mp mw mc md mt me)
  refine a_aload_n X 0 d_Mo_share_0 rfl rfl ?_
  refine a_iload_n X 1 d_Mo_share_1 rfl rfl ?_
  refine a_callV X (a := 203) (As := [.int _]) mq_203 rfl fb_Mo_isPlace lk_Mo_98 im_Mo_isPlace se_Mo_isPlace (c_Mo_isPlace_y hp hM.1) rfl rfl (Nat.le_of_ble_eq_true rfl) (by decide) (by decide) (Nat.le_refl _) (Nat.le_refl _) d_Mo_share_2 (fun v h1 hp => ?_)
  obtain ⟨rfl, rfl⟩ := hp
  refine a_if_eqN X 16 (by omega) d_Mo_share_5 (by decide) (fun c5 => ?_) (fun c5 => ?_)
  ·
    exfalso
    omega
  ·
    refine a_aload_n X 0 d_Mo_share_8 rfl rfl ?_
    refine a_iload_n X 2 d_Mo_share_9 rfl rfl ?_
    refine a_callV X (a := 203) (As := [.int _]) mq_203 rfl fb_Mo_isState lk_Mo_88 im_Mo_isState se_Mo_isState (c_Mo_isState_y hj (by have := hM.2.1; omega)) rfl rfl (Nat.le_of_ble_eq_true rfl) (by decide) (by decide) (Nat.le_refl _) (Nat.le_refl _) d_Mo_share_10 (fun v h1 hp => ?_)
    obtain ⟨rfl, rfl⟩ := hp
    refine a_if_neN X 20 (by omega) d_Mo_share_13 (by decide) (fun c13 => ?_) (fun c13 => ?_)
    ·
      refine a_iload_n X 3 d_Mo_share_20 rfl rfl ?_
      refine a_if_ltN X 29 (by omega) d_Mo_share_21 (by decide) ?_
      refine a_iload_n X 3 d_Mo_share_24 rfl rfl ?_
      refine a_iconst X (v := nI 1) d_Mo_share_25 (by decide) ?_
      refine a_icmp_leN X 33 (by omega) (by omega) d_Mo_share_26 (by decide) (fun c26 => ?_) (fun c26 => ?_)
      ·
        refine a_aload_n X 0 d_Mo_share_33 rfl rfl ?_
        refine a_callV X (a := 203) (As := []) mq_203 rfl fb_Mo_know lk_Mo_138 im_Mo_know se_Mo_know (c_Mo_kno hM hk) rfl rfl (Nat.le_of_ble_eq_true rfl) (by decide) (by decide) (Nat.le_refl _) (Nat.le_refl _) d_Mo_share_34 (fun v h1 hp => ?_)
        obtain ⟨mw1, mc1, hA, hsm, rfl, rfl⟩ := hp
        have hT1 : mc1.2.1 < 2 ^ 63 := by rw [hA.2.1]; exact hT
        have hS := (Agg_le hA).1 (4 * p + j) (by omega)
        refine a_aload_n X 0 d_Mo_share_37 rfl rfl ?_
        refine a_get X ff_Mo_116 d_Mo_share_38 mq_203 rfl ?_
        refine a_lconst X (v := lN 0) d_Mo_share_41 (by decide) ?_
        refine a_lc_ne X 52 hT1 (by omega) d_Mo_share_42 d_Mo_share_43 (by decide) (fun c42 => ?_) (fun c42 => ?_)
        ·
          refine a_aload_n X 0 d_Mo_share_52 rfl rfl ?_
          refine a_get X ff_Mo_31 d_Mo_share_53 mq_203 rfl ?_
          refine a_iconst X (v := nI 4) d_Mo_share_56 (by decide) ?_
          refine a_iload_n X 1 d_Mo_share_57 rfl rfl ?_
          refine a_imul X d_Mo_share_58 ?_
          refine ab_topi (pk_mul _ _) ?_
          refine a_iload_n X 2 d_Mo_share_59 rfl rfl ?_
          refine a_iadd X d_Mo_share_60 ?_
          refine ab_topi (nI_add _ _) ?_
          refine a_lald X d_Mo_share_61 mq_211 rfl (ab_ix_nI (by omega) (by decide)) ?_
          refine a_aload_n X 0 d_Mo_share_62 rfl rfl ?_
          refine a_get X ff_Mo_116 d_Mo_share_63 mq_203 rfl ?_
          refine a_iload_n X 3 d_Mo_share_66 rfl rfl ?_
          refine a_callS X (As := [.long (lN _), .long (lN _), .int (nI _)]) fb_Mo_lowest lk_Mo_151 sm_Mo_lowest (c_Mo_low (Nat.lt_of_le_of_lt hS hT1) hT1 (by omega) hpt) rfl rfl (Nat.le_of_ble_eq_true rfl) (by decide) (by decide) (Nat.le_refl _) (Nat.le_refl _) d_Mo_share_67 (fun v h1 hp => ?_)
          obtain ⟨rfl, rfl⟩ := hp
          exact a_lret X d_Mo_share_70 (Nat.le_refl _) (Nat.le_refl _) ⟨mw1, mc1, hA, hsm, by first | rfl | (unfold lowR; rw [if_pos c42]), rfl⟩
        ·
          refine a_ldc2 X kc_Mo_149 d_Mo_share_46 ?_
          refine a_goto X 70 d_Mo_share_49 (by decide) ?_
          exact a_lret X d_Mo_share_70 (Nat.le_refl _) (Nat.le_refl _) ⟨mw1, mc1, hA, hsm, by first | rfl | (unfold lowR; rw [if_pos c42]), rfl⟩
      ·
        exfalso
        omega
    ·
      exfalso
      omega
set_option maxHeartbeats 4000000 in
set_option maxRecDepth 20000 in
theorem c_Mo_share_p {E : ab_E} {l : Launch} {r : hR} {s : hS} {w c : hW} {b : hB} {d : hD} {k : hK} {t : hT} {ms mk : hA} {mp : hP} {mw : Nat → Int32} {mc : hC} {md : Nat × (Nat → Int32)} {mt : hF} {me : hE} {a e x : Int32} (ha : a < 0 ∨ nI mp.1 ≤ a) : ab_Con E l y_Mo_share b_Mo_share 4 (some .long) 4 91 [.ref 204, .int a, .int e, .int x] (hc r s w c b d k t ++ hm ms mk mp mw mc md mt me) 0 0 (fun v h1 => v = some (.long (-1)) ∧ h1 = hc r s w c b d k t ++ hm ms mk mp mw mc md mt me) := by
  refine ab_con (own := "HiddenRowsModel") (ini := false) (by decide) (fun h => by cases h) rfl (Nat.le_of_ble_eq_true rfl) ?_
  intro G m X
  show ab_R E G m 4 0 0 0 [(0, .ref 204), (1, .int a), (2, .int e), (3, .int x)] [] (hc r s w c b d k t ++ hm ms mk mp mw mc md mt me)
  refine a_aload_n X 0 d_Mo_share_0 rfl rfl ?_
  refine a_iload_n X 1 d_Mo_share_1 rfl rfl ?_
  refine a_callV X (a := 203) (As := [.int _]) mq_203 rfl fb_Mo_isPlace lk_Mo_98 im_Mo_isPlace se_Mo_isPlace (c_Mo_isPlace_n ha) rfl rfl (Nat.le_of_ble_eq_true rfl) (by decide) (by decide) (Nat.le_refl _) (Nat.le_refl _) d_Mo_share_2 (fun v h1 hp => ?_)
  obtain ⟨rfl, rfl⟩ := hp
  refine a_if_eqN X 16 (by omega) d_Mo_share_5 (by decide) (fun c5 => ?_) (fun c5 => ?_)
  ·
    refine a_ldc2 X kc_Mo_145 d_Mo_share_16 ?_
    exact a_lret X d_Mo_share_19 (Nat.le_refl _) (Nat.le_refl _) ⟨rfl, rfl⟩
  ·
    exfalso
    omega
set_option maxHeartbeats 4000000 in
set_option maxRecDepth 20000 in
theorem c_Mo_share_s {E : ab_E} {l : Launch} {r : hR} {s : hS} {w c : hW} {b : hB} {d : hD} {k : hK} {t : hT} {ms mk : hA} {mp : hP} {mw : Nat → Int32} {mc : hC} {md : Nat × (Nat → Int32)} {mt : hF} {me : hE} {p : Nat} {e x : Int32} (hn : mp.1 ≤ 6) (hp : p < mp.1) (he : e < 0 ∨ nI ms.1 ≤ e) : ab_Con E l y_Mo_share b_Mo_share 4 (some .long) 4 91 [.ref 204, .int (nI p), .int e, .int x] (hc r s w c b d k t ++ hm ms mk mp mw mc md mt me) 0 0 (fun v h1 => v = some (.long (-1)) ∧ h1 = hc r s w c b d k t ++ hm ms mk mp mw mc md mt me) := by
  refine ab_con (own := "HiddenRowsModel") (ini := false) (by decide) (fun h => by cases h) rfl (Nat.le_of_ble_eq_true rfl) ?_
  intro G m X
  show ab_R E G m 4 0 0 0 [(0, .ref 204), (1, .int (nI p)), (2, .int e), (3, .int x)] [] (hc r s w c b d k t ++ hm ms mk mp mw mc md mt me)
  refine a_aload_n X 0 d_Mo_share_0 rfl rfl ?_
  refine a_iload_n X 1 d_Mo_share_1 rfl rfl ?_
  refine a_callV X (a := 203) (As := [.int _]) mq_203 rfl fb_Mo_isPlace lk_Mo_98 im_Mo_isPlace se_Mo_isPlace (c_Mo_isPlace_y hp hn) rfl rfl (Nat.le_of_ble_eq_true rfl) (by decide) (by decide) (Nat.le_refl _) (Nat.le_refl _) d_Mo_share_2 (fun v h1 hp => ?_)
  obtain ⟨rfl, rfl⟩ := hp
  refine a_if_eqN X 16 (by omega) d_Mo_share_5 (by decide) (fun c5 => ?_) (fun c5 => ?_)
  ·
    exfalso
    omega
  ·
    refine a_aload_n X 0 d_Mo_share_8 rfl rfl ?_
    refine a_iload_n X 2 d_Mo_share_9 rfl rfl ?_
    refine a_callV X (a := 203) (As := [.int _]) mq_203 rfl fb_Mo_isState lk_Mo_88 im_Mo_isState se_Mo_isState (c_Mo_isState_n he) rfl rfl (Nat.le_of_ble_eq_true rfl) (by decide) (by decide) (Nat.le_refl _) (Nat.le_refl _) d_Mo_share_10 (fun v h1 hp => ?_)
    obtain ⟨rfl, rfl⟩ := hp
    refine a_if_neN X 20 (by omega) d_Mo_share_13 (by decide) (fun c13 => ?_) (fun c13 => ?_)
    ·
      exfalso
      omega
    ·
      refine a_ldc2 X kc_Mo_145 d_Mo_share_16 ?_
      exact a_lret X d_Mo_share_19 (Nat.le_refl _) (Nat.le_refl _) ⟨rfl, rfl⟩
set_option maxHeartbeats 4000000 in
set_option maxRecDepth 20000 in
theorem c_Mo_share_x {E : ab_E} {l : Launch} {r : hR} {s : hS} {w c : hW} {b : hB} {d : hD} {k : hK} {t : hT} {ms mk : hA} {mp : hP} {mw : Nat → Int32} {mc : hC} {md : Nat × (Nat → Int32)} {mt : hF} {me : hE} {p j : Nat} {x : Int32} (hn : mp.1 ≤ 6) (hp : p < mp.1) (hq : ms.1 ≤ 4) (hj : j < ms.1) (hx : x ≠ 0 ∧ x ≠ nI 1) : ab_Con E l y_Mo_share b_Mo_share 4 (some .long) 4 91 [.ref 204, .int (nI p), .int (nI j), .int x] (hc r s w c b d k t ++ hm ms mk mp mw mc md mt me) 0 0 (fun v h1 => v = some (.long (-2)) ∧ h1 = hc r s w c b d k t ++ hm ms mk mp mw mc md mt me) := by
  refine ab_con (own := "HiddenRowsModel") (ini := false) (by decide) (fun h => by cases h) rfl (Nat.le_of_ble_eq_true rfl) ?_
  intro G m X
  show ab_R E G m 4 0 0 0 [(0, .ref 204), (1, .int (nI p)), (2, .int (nI j)), (3, .int x)] [] (hc r s w c b d k t ++ hm ms mk mp mw mc md mt me)
  refine a_aload_n X 0 d_Mo_share_0 rfl rfl ?_
  refine a_iload_n X 1 d_Mo_share_1 rfl rfl ?_
  refine a_callV X (a := 203) (As := [.int _]) mq_203 rfl fb_Mo_isPlace lk_Mo_98 im_Mo_isPlace se_Mo_isPlace (c_Mo_isPlace_y hp hn) rfl rfl (Nat.le_of_ble_eq_true rfl) (by decide) (by decide) (Nat.le_refl _) (Nat.le_refl _) d_Mo_share_2 (fun v h1 hp => ?_)
  obtain ⟨rfl, rfl⟩ := hp
  refine a_if_eqN X 16 (by omega) d_Mo_share_5 (by decide) (fun c5 => ?_) (fun c5 => ?_)
  ·
    exfalso
    omega
  ·
    refine a_aload_n X 0 d_Mo_share_8 rfl rfl ?_
    refine a_iload_n X 2 d_Mo_share_9 rfl rfl ?_
    refine a_callV X (a := 203) (As := [.int _]) mq_203 rfl fb_Mo_isState lk_Mo_88 im_Mo_isState se_Mo_isState (c_Mo_isState_y hj (by omega)) rfl rfl (Nat.le_of_ble_eq_true rfl) (by decide) (by decide) (Nat.le_refl _) (Nat.le_refl _) d_Mo_share_10 (fun v h1 hp => ?_)
    obtain ⟨rfl, rfl⟩ := hp
    refine a_if_neN X 20 (by omega) d_Mo_share_13 (by decide) (fun c13 => ?_) (fun c13 => ?_)
    ·
      refine a_iload_n X 3 d_Mo_share_20 rfl rfl ?_
      refine a_if_lt X 29 d_Mo_share_21 (by decide) (fun c21 => ?_) (fun c21 => ?_)
      ·
        refine a_ldc2 X kc_Mo_147 d_Mo_share_29 ?_
        exact a_lret X d_Mo_share_32 (Nat.le_refl _) (Nat.le_refl _) ⟨rfl, rfl⟩
      ·
        refine a_iload_n X 3 d_Mo_share_24 rfl rfl ?_
        refine a_iconst X (v := nI 1) d_Mo_share_25 (by decide) ?_
        refine a_icmp_le X 33 d_Mo_share_26 (by decide) (fun c26 => ?_) (fun c26 => ?_)
        ·
          exfalso
          rcases i_n2 hx with q | q
          · exact c21 q
          · exact q c26
        ·
          refine a_ldc2 X kc_Mo_147 d_Mo_share_29 ?_
          exact a_lret X d_Mo_share_32 (Nat.le_refl _) (Nat.le_refl _) ⟨rfl, rfl⟩
    ·
      exfalso
      omega
set_option maxHeartbeats 4000000 in
set_option maxRecDepth 20000 in
theorem c_Mo_begin_ok {E : ab_E} {l : Launch} {r : hR} {s : hS} {w c : hW} {b : hB} {d : hD} {k : hK} {t : hT} {ms mk : hA} {mp : hP} {mw : Nat → Int32} {mc : hC} {md : Nat × (Nat → Int32)} {mt : hF} {me : hE} {p j pt : Nat} (hM : okM ms mp) (hk : mc.1 = 0 ∨ mc.1 = 1 ∧ knM ms mp mc) (hp : p < mp.1) (hj : j < ms.1) (hpt : pt ≤ 1) (hT : sumR (wtc ms mp) 0 (FB mp.1) < 2 ^ 63) : ab_Con E l y_Mo_begin b_Mo_begin 4 (some .long) 4 91 [.ref 204, .int (nI p), .int (nI j), .int (nI pt)] (hc r s w c b d k t ++ hm ms mk mp mw mc md mt me) 0 0 (fun v h1 => ∃ (mw1 : Nat → Int32) (mc1 : hC), knM ms mp mc1 ∧ (mc.1 = 1 → mc1 = mc) ∧ v = some (.long (lowR (mc1.2.2.2.2.1 (4 * p + j)) mc1.2.1 pt)) ∧ h1 = hc r s w c b d k t ++ hm ms mk mp mw1 mc1 md mt me) := by
  have hn := hM.1
  have hq := hM.2.1
  refine ab_con (own := "HiddenRowsModel") (ini := false) (by decide) (fun h => by cases h) rfl (Nat.le_of_ble_eq_true rfl) ?_
  intro G m X
  show ab_R E G m 4 0 0 0 [(0, .ref 204), (1, .int (nI p)), (2, .int (nI j)), (3, .int (nI pt))] [] (hc r s w c b d k t ++ hm ms mk mp mw mc md mt me)
  refine a_aload_n X 0 d_Mo_begin_0 rfl rfl ?_
  refine a_iload_n X 1 d_Mo_begin_1 rfl rfl ?_
  refine a_callV X (a := 203) (As := [.int _]) mq_203 rfl fb_Mo_isPlace lk_Mo_98 im_Mo_isPlace se_Mo_isPlace (c_Mo_isPlace_y hp hM.1) rfl rfl (Nat.le_of_ble_eq_true rfl) (by decide) (by decide) (Nat.le_refl _) (Nat.le_refl _) d_Mo_begin_2 (fun v h1 hp => ?_)
  obtain ⟨rfl, rfl⟩ := hp
  refine a_if_eqN X 16 (by omega) d_Mo_begin_5 (by decide) (fun c5 => ?_) (fun c5 => ?_)
  ·
    exfalso
    omega
  ·
    refine a_aload_n X 0 d_Mo_begin_8 rfl rfl ?_
    refine a_iload_n X 2 d_Mo_begin_9 rfl rfl ?_
    refine a_callV X (a := 203) (As := [.int _]) mq_203 rfl fb_Mo_isState lk_Mo_88 im_Mo_isState se_Mo_isState (c_Mo_isState_y hj (by have := hM.2.1; omega)) rfl rfl (Nat.le_of_ble_eq_true rfl) (by decide) (by decide) (Nat.le_refl _) (Nat.le_refl _) d_Mo_begin_10 (fun v h1 hp => ?_)
    obtain ⟨rfl, rfl⟩ := hp
    refine a_if_neN X 20 (by omega) d_Mo_begin_13 (by decide) (fun c13 => ?_) (fun c13 => ?_)
    ·
      refine a_iload_n X 3 d_Mo_begin_20 rfl rfl ?_
      refine a_if_ltN X 29 (by omega) d_Mo_begin_21 (by decide) ?_
      refine a_iload_n X 3 d_Mo_begin_24 rfl rfl ?_
      refine a_iconst X (v := nI 1) d_Mo_begin_25 (by decide) ?_
      refine a_icmp_leN X 33 (by omega) (by omega) d_Mo_begin_26 (by decide) (fun c26 => ?_) (fun c26 => ?_)
      ·
        refine a_aload_n X 0 d_Mo_begin_33 rfl rfl ?_
        refine a_callV X (a := 203) (As := []) mq_203 rfl fb_Mo_know lk_Mo_138 im_Mo_know se_Mo_know (c_Mo_kno hM hk) rfl rfl (Nat.le_of_ble_eq_true rfl) (by decide) (by decide) (Nat.le_refl _) (Nat.le_refl _) d_Mo_begin_34 (fun v h1 hp => ?_)
        obtain ⟨mw1, mc1, hA, hsm, rfl, rfl⟩ := hp
        have hT1 : mc1.2.1 < 2 ^ 63 := by rw [hA.2.1]; exact hT
        have hS := (Agg_le hA).2.1 (4 * p + j) (by omega)
        refine a_aload_n X 0 d_Mo_begin_37 rfl rfl ?_
        refine a_get X ff_Mo_116 d_Mo_begin_38 mq_203 rfl ?_
        refine a_lconst X (v := lN 0) d_Mo_begin_41 (by decide) ?_
        refine a_lc_ne X 52 hT1 (by omega) d_Mo_begin_42 d_Mo_begin_43 (by decide) (fun c42 => ?_) (fun c42 => ?_)
        ·
          refine a_aload_n X 0 d_Mo_begin_52 rfl rfl ?_
          refine a_get X ff_Mo_35 d_Mo_begin_53 mq_203 rfl ?_
          refine a_iconst X (v := nI 4) d_Mo_begin_56 (by decide) ?_
          refine a_iload_n X 1 d_Mo_begin_57 rfl rfl ?_
          refine a_imul X d_Mo_begin_58 ?_
          refine ab_topi (pk_mul _ _) ?_
          refine a_iload_n X 2 d_Mo_begin_59 rfl rfl ?_
          refine a_iadd X d_Mo_begin_60 ?_
          refine ab_topi (nI_add _ _) ?_
          refine a_lald X d_Mo_begin_61 mq_212 rfl (ab_ix_nI (by omega) (by decide)) ?_
          refine a_aload_n X 0 d_Mo_begin_62 rfl rfl ?_
          refine a_get X ff_Mo_116 d_Mo_begin_63 mq_203 rfl ?_
          refine a_iload_n X 3 d_Mo_begin_66 rfl rfl ?_
          refine a_callS X (As := [.long (lN _), .long (lN _), .int (nI _)]) fb_Mo_lowest lk_Mo_151 sm_Mo_lowest (c_Mo_low (Nat.lt_of_le_of_lt hS hT1) hT1 (by omega) hpt) rfl rfl (Nat.le_of_ble_eq_true rfl) (by decide) (by decide) (Nat.le_refl _) (Nat.le_refl _) d_Mo_begin_67 (fun v h1 hp => ?_)
          obtain ⟨rfl, rfl⟩ := hp
          exact a_lret X d_Mo_begin_70 (Nat.le_refl _) (Nat.le_refl _) ⟨mw1, mc1, hA, hsm, by first | rfl | (unfold lowR; rw [if_pos c42]), rfl⟩
        ·
          refine a_ldc2 X kc_Mo_149 d_Mo_begin_46 ?_
          refine a_goto X 70 d_Mo_begin_49 (by decide) ?_
          exact a_lret X d_Mo_begin_70 (Nat.le_refl _) (Nat.le_refl _) ⟨mw1, mc1, hA, hsm, by first | rfl | (unfold lowR; rw [if_pos c42]), rfl⟩
      ·
        exfalso
        omega
    ·
      exfalso
      omega
set_option maxHeartbeats 4000000 in
set_option maxRecDepth 20000 in
theorem c_Mo_begin_p {E : ab_E} {l : Launch} {r : hR} {s : hS} {w c : hW} {b : hB} {d : hD} {k : hK} {t : hT} {ms mk : hA} {mp : hP} {mw : Nat → Int32} {mc : hC} {md : Nat × (Nat → Int32)} {mt : hF} {me : hE} {a e x : Int32} (ha : a < 0 ∨ nI mp.1 ≤ a) : ab_Con E l y_Mo_begin b_Mo_begin 4 (some .long) 4 91 [.ref 204, .int a, .int e, .int x] (hc r s w c b d k t ++ hm ms mk mp mw mc md mt me) 0 0 (fun v h1 => v = some (.long (-1)) ∧ h1 = hc r s w c b d k t ++ hm ms mk mp mw mc md mt me) := by
  refine ab_con (own := "HiddenRowsModel") (ini := false) (by decide) (fun h => by cases h) rfl (Nat.le_of_ble_eq_true rfl) ?_
  intro G m X
  show ab_R E G m 4 0 0 0 [(0, .ref 204), (1, .int a), (2, .int e), (3, .int x)] [] (hc r s w c b d k t ++ hm ms mk mp mw mc md mt me)
  refine a_aload_n X 0 d_Mo_begin_0 rfl rfl ?_
  refine a_iload_n X 1 d_Mo_begin_1 rfl rfl ?_
  refine a_callV X (a := 203) (As := [.int _]) mq_203 rfl fb_Mo_isPlace lk_Mo_98 im_Mo_isPlace se_Mo_isPlace (c_Mo_isPlace_n ha) rfl rfl (Nat.le_of_ble_eq_true rfl) (by decide) (by decide) (Nat.le_refl _) (Nat.le_refl _) d_Mo_begin_2 (fun v h1 hp => ?_)
  obtain ⟨rfl, rfl⟩ := hp
  refine a_if_eqN X 16 (by omega) d_Mo_begin_5 (by decide) (fun c5 => ?_) (fun c5 => ?_)
  ·
    refine a_ldc2 X kc_Mo_145 d_Mo_begin_16 ?_
    exact a_lret X d_Mo_begin_19 (Nat.le_refl _) (Nat.le_refl _) ⟨rfl, rfl⟩
  ·
    exfalso
    omega
set_option maxHeartbeats 4000000 in
set_option maxRecDepth 20000 in
theorem c_Mo_begin_s {E : ab_E} {l : Launch} {r : hR} {s : hS} {w c : hW} {b : hB} {d : hD} {k : hK} {t : hT} {ms mk : hA} {mp : hP} {mw : Nat → Int32} {mc : hC} {md : Nat × (Nat → Int32)} {mt : hF} {me : hE} {p : Nat} {e x : Int32} (hn : mp.1 ≤ 6) (hp : p < mp.1) (he : e < 0 ∨ nI ms.1 ≤ e) : ab_Con E l y_Mo_begin b_Mo_begin 4 (some .long) 4 91 [.ref 204, .int (nI p), .int e, .int x] (hc r s w c b d k t ++ hm ms mk mp mw mc md mt me) 0 0 (fun v h1 => v = some (.long (-1)) ∧ h1 = hc r s w c b d k t ++ hm ms mk mp mw mc md mt me) := by
  refine ab_con (own := "HiddenRowsModel") (ini := false) (by decide) (fun h => by cases h) rfl (Nat.le_of_ble_eq_true rfl) ?_
  intro G m X
  show ab_R E G m 4 0 0 0 [(0, .ref 204), (1, .int (nI p)), (2, .int e), (3, .int x)] [] (hc r s w c b d k t ++ hm ms mk mp mw mc md mt me)
  refine a_aload_n X 0 d_Mo_begin_0 rfl rfl ?_
  refine a_iload_n X 1 d_Mo_begin_1 rfl rfl ?_
  refine a_callV X (a := 203) (As := [.int _]) mq_203 rfl fb_Mo_isPlace lk_Mo_98 im_Mo_isPlace se_Mo_isPlace (c_Mo_isPlace_y hp hn) rfl rfl (Nat.le_of_ble_eq_true rfl) (by decide) (by decide) (Nat.le_refl _) (Nat.le_refl _) d_Mo_begin_2 (fun v h1 hp => ?_)
  obtain ⟨rfl, rfl⟩ := hp
  refine a_if_eqN X 16 (by omega) d_Mo_begin_5 (by decide) (fun c5 => ?_) (fun c5 => ?_)
  ·
    exfalso
    omega
  ·
    refine a_aload_n X 0 d_Mo_begin_8 rfl rfl ?_
    refine a_iload_n X 2 d_Mo_begin_9 rfl rfl ?_
    refine a_callV X (a := 203) (As := [.int _]) mq_203 rfl fb_Mo_isState lk_Mo_88 im_Mo_isState se_Mo_isState (c_Mo_isState_n he) rfl rfl (Nat.le_of_ble_eq_true rfl) (by decide) (by decide) (Nat.le_refl _) (Nat.le_refl _) d_Mo_begin_10 (fun v h1 hp => ?_)
    obtain ⟨rfl, rfl⟩ := hp
    refine a_if_neN X 20 (by omega) d_Mo_begin_13 (by decide) (fun c13 => ?_) (fun c13 => ?_)
    ·
      exfalso
      omega
    ·
      refine a_ldc2 X kc_Mo_145 d_Mo_begin_16 ?_
      exact a_lret X d_Mo_begin_19 (Nat.le_refl _) (Nat.le_refl _) ⟨rfl, rfl⟩
set_option maxHeartbeats 4000000 in
set_option maxRecDepth 20000 in
theorem c_Mo_begin_x {E : ab_E} {l : Launch} {r : hR} {s : hS} {w c : hW} {b : hB} {d : hD} {k : hK} {t : hT} {ms mk : hA} {mp : hP} {mw : Nat → Int32} {mc : hC} {md : Nat × (Nat → Int32)} {mt : hF} {me : hE} {p j : Nat} {x : Int32} (hn : mp.1 ≤ 6) (hp : p < mp.1) (hq : ms.1 ≤ 4) (hj : j < ms.1) (hx : x ≠ 0 ∧ x ≠ nI 1) : ab_Con E l y_Mo_begin b_Mo_begin 4 (some .long) 4 91 [.ref 204, .int (nI p), .int (nI j), .int x] (hc r s w c b d k t ++ hm ms mk mp mw mc md mt me) 0 0 (fun v h1 => v = some (.long (-2)) ∧ h1 = hc r s w c b d k t ++ hm ms mk mp mw mc md mt me) := by
  refine ab_con (own := "HiddenRowsModel") (ini := false) (by decide) (fun h => by cases h) rfl (Nat.le_of_ble_eq_true rfl) ?_
  intro G m X
  show ab_R E G m 4 0 0 0 [(0, .ref 204), (1, .int (nI p)), (2, .int (nI j)), (3, .int x)] [] (hc r s w c b d k t ++ hm ms mk mp mw mc md mt me)
  refine a_aload_n X 0 d_Mo_begin_0 rfl rfl ?_
  refine a_iload_n X 1 d_Mo_begin_1 rfl rfl ?_
  refine a_callV X (a := 203) (As := [.int _]) mq_203 rfl fb_Mo_isPlace lk_Mo_98 im_Mo_isPlace se_Mo_isPlace (c_Mo_isPlace_y hp hn) rfl rfl (Nat.le_of_ble_eq_true rfl) (by decide) (by decide) (Nat.le_refl _) (Nat.le_refl _) d_Mo_begin_2 (fun v h1 hp => ?_)
  obtain ⟨rfl, rfl⟩ := hp
  refine a_if_eqN X 16 (by omega) d_Mo_begin_5 (by decide) (fun c5 => ?_) (fun c5 => ?_)
  ·
    exfalso
    omega
  ·
    refine a_aload_n X 0 d_Mo_begin_8 rfl rfl ?_
    refine a_iload_n X 2 d_Mo_begin_9 rfl rfl ?_
    refine a_callV X (a := 203) (As := [.int _]) mq_203 rfl fb_Mo_isState lk_Mo_88 im_Mo_isState se_Mo_isState (c_Mo_isState_y hj (by omega)) rfl rfl (Nat.le_of_ble_eq_true rfl) (by decide) (by decide) (Nat.le_refl _) (Nat.le_refl _) d_Mo_begin_10 (fun v h1 hp => ?_)
    obtain ⟨rfl, rfl⟩ := hp
    refine a_if_neN X 20 (by omega) d_Mo_begin_13 (by decide) (fun c13 => ?_) (fun c13 => ?_)
    ·
      refine a_iload_n X 3 d_Mo_begin_20 rfl rfl ?_
      refine a_if_lt X 29 d_Mo_begin_21 (by decide) (fun c21 => ?_) (fun c21 => ?_)
      ·
        refine a_ldc2 X kc_Mo_147 d_Mo_begin_29 ?_
        exact a_lret X d_Mo_begin_32 (Nat.le_refl _) (Nat.le_refl _) ⟨rfl, rfl⟩
      ·
        refine a_iload_n X 3 d_Mo_begin_24 rfl rfl ?_
        refine a_iconst X (v := nI 1) d_Mo_begin_25 (by decide) ?_
        refine a_icmp_le X 33 d_Mo_begin_26 (by decide) (fun c26 => ?_) (fun c26 => ?_)
        ·
          exfalso
          rcases i_n2 hx with q | q
          · exact c21 q
          · exact q c26
        ·
          refine a_ldc2 X kc_Mo_147 d_Mo_begin_29 ?_
          exact a_lret X d_Mo_begin_32 (Nat.le_refl _) (Nat.le_refl _) ⟨rfl, rfl⟩
    ·
      exfalso
      omega
set_option maxHeartbeats 4000000 in
set_option maxRecDepth 20000 in
theorem c_Mo_pair_ok {E : ab_E} {l : Launch} {r : hR} {s : hS} {w c : hW} {b : hB} {d : hD} {k : hK} {t : hT} {ms mk : hA} {mp : hP} {mw : Nat → Int32} {mc : hC} {md : Nat × (Nat → Int32)} {mt : hF} {me : hE} {p j z pt : Nat} (hM : okM ms mp) (hk : mc.1 = 0 ∨ mc.1 = 1 ∧ knM ms mp mc) (hp : p + 1 < mp.1) (hj : j < ms.1) (hz : z < ms.1) (hpt : pt ≤ 1) (hT : sumR (wtc ms mp) 0 (FB mp.1) < 2 ^ 63) : ab_Con E l y_Mo_pair b_Mo_pair 5 (some .long) 4 91 [.ref 204, .int (nI p), .int (nI j), .int (nI z), .int (nI pt)] (hc r s w c b d k t ++ hm ms mk mp mw mc md mt me) 0 0 (fun v h1 => ∃ (mw1 : Nat → Int32) (mc1 : hC), knM ms mp mc1 ∧ (mc.1 = 1 → mc1 = mc) ∧ v = some (.long (lowR (mc1.2.2.2.2.2.1 (16 * p + 4 * j + z)) mc1.2.1 pt)) ∧ h1 = hc r s w c b d k t ++ hm ms mk mp mw1 mc1 md mt me) := by
  have hn := hM.1
  have hq := hM.2.1
  refine ab_con (own := "HiddenRowsModel") (ini := false) (by decide) (fun h => by cases h) rfl (Nat.le_of_ble_eq_true rfl) ?_
  intro G m X
  show ab_R E G m 5 0 0 0 [(0, .ref 204), (1, .int (nI p)), (2, .int (nI j)), (3, .int (nI z)), (4, .int (nI pt))] [] (hc r s w c b d k t ++ hm ms mk mp mw mc md mt me)
  refine a_aload_n X 0 d_Mo_pair_0 rfl rfl ?_
  refine a_iload_n X 1 d_Mo_pair_1 rfl rfl ?_
  refine a_callV X (a := 203) (As := [.int _]) mq_203 rfl fb_Mo_isPlace lk_Mo_98 im_Mo_isPlace se_Mo_isPlace (c_Mo_isPlace_y (show p < mp.1 by omega) hn) rfl rfl (Nat.le_of_ble_eq_true rfl) (by decide) (by decide) (Nat.le_refl _) (Nat.le_refl _) d_Mo_pair_2 (fun v h1 hp => ?_)
  obtain ⟨rfl, rfl⟩ := hp
  refine a_if_eqN X 34 (by omega) d_Mo_pair_5 (by decide) (fun c5 => ?_) (fun c5 => ?_)
  ·
    exfalso
    omega
  ·
    refine a_iload_n X 1 d_Mo_pair_8 rfl rfl ?_
    refine a_aload_n X 0 d_Mo_pair_9 rfl rfl ?_
    refine a_get X ff_Mo_82 d_Mo_pair_10 mq_203 rfl ?_
    refine a_iconst X (v := nI 1) d_Mo_pair_13 (by decide) ?_
    refine a_isub X d_Mo_pair_14 ?_
    refine ab_topi (pk_sub (by omega)) ?_
    refine a_icmp_eqN X 34 (by omega) (by omega) d_Mo_pair_15 (by decide) (fun c15 => ?_) (fun c15 => ?_)
    ·
      exfalso
      omega
    ·
      refine a_aload_n X 0 d_Mo_pair_18 rfl rfl ?_
      refine a_iload_n X 2 d_Mo_pair_19 rfl rfl ?_
      refine a_callV X (a := 203) (As := [.int _]) mq_203 rfl fb_Mo_isState lk_Mo_88 im_Mo_isState se_Mo_isState (c_Mo_isState_y hj (by omega)) rfl rfl (Nat.le_of_ble_eq_true rfl) (by decide) (by decide) (Nat.le_refl _) (Nat.le_refl _) d_Mo_pair_20 (fun v h1 hp => ?_)
      obtain ⟨rfl, rfl⟩ := hp
      refine a_if_eqN X 34 (by omega) d_Mo_pair_23 (by decide) (fun c23 => ?_) (fun c23 => ?_)
      ·
        exfalso
        omega
      ·
        refine a_aload_n X 0 d_Mo_pair_26 rfl rfl ?_
        refine a_iload_n X 3 d_Mo_pair_27 rfl rfl ?_
        refine a_callV X (a := 203) (As := [.int _]) mq_203 rfl fb_Mo_isState lk_Mo_88 im_Mo_isState se_Mo_isState (c_Mo_isState_y hz (by omega)) rfl rfl (Nat.le_of_ble_eq_true rfl) (by decide) (by decide) (Nat.le_refl _) (Nat.le_refl _) d_Mo_pair_28 (fun v h1 hp => ?_)
        obtain ⟨rfl, rfl⟩ := hp
        refine a_if_neN X 38 (by omega) d_Mo_pair_31 (by decide) (fun c31 => ?_) (fun c31 => ?_)
        ·
          refine a_iload X d_Mo_pair_38 rfl ?_
          refine a_if_ltN X 49 (by omega) d_Mo_pair_40 (by decide) ?_
          refine a_iload X d_Mo_pair_43 rfl ?_
          refine a_iconst X (v := nI 1) d_Mo_pair_45 (by decide) ?_
          refine a_icmp_leN X 53 (by omega) (by omega) d_Mo_pair_46 (by decide) (fun c46 => ?_) (fun c46 => ?_)
          ·
            refine a_aload_n X 0 d_Mo_pair_53 rfl rfl ?_
            refine a_callV X (a := 203) (As := []) mq_203 rfl fb_Mo_know lk_Mo_138 im_Mo_know se_Mo_know (c_Mo_kno hM hk) rfl rfl (Nat.le_of_ble_eq_true rfl) (by decide) (by decide) (Nat.le_refl _) (Nat.le_refl _) d_Mo_pair_54 (fun v h1 hp => ?_)
            obtain ⟨mw1, mc1, hA, hsm, rfl, rfl⟩ := hp
            have hT1 : mc1.2.1 < 2 ^ 63 := by rw [hA.2.1]; exact hT
            have hS := (Agg_le hA).2.2 (16 * p + 4 * j + z) (by omega)
            refine a_aload_n X 0 d_Mo_pair_57 rfl rfl ?_
            refine a_get X ff_Mo_116 d_Mo_pair_58 mq_203 rfl ?_
            refine a_lconst X (v := lN 0) d_Mo_pair_61 (by decide) ?_
            refine a_lc_ne X 72 hT1 (by omega) d_Mo_pair_62 d_Mo_pair_63 (by decide) (fun c62 => ?_) (fun c62 => ?_)
            ·
              refine a_aload_n X 0 d_Mo_pair_72 rfl rfl ?_
              refine a_get X ff_Mo_38 d_Mo_pair_73 mq_203 rfl ?_
              refine a_bipush X (v := nI 16) d_Mo_pair_76 (by decide) ?_
              refine a_iload_n X 1 d_Mo_pair_78 rfl rfl ?_
              refine a_imul X d_Mo_pair_79 ?_
              refine ab_topi (pk_mul _ _) ?_
              refine a_iconst X (v := nI 4) d_Mo_pair_80 (by decide) ?_
              refine a_iload_n X 2 d_Mo_pair_81 rfl rfl ?_
              refine a_imul X d_Mo_pair_82 ?_
              refine ab_topi (pk_mul _ _) ?_
              refine a_iadd X d_Mo_pair_83 ?_
              refine ab_topi (nI_add _ _) ?_
              refine a_iload_n X 3 d_Mo_pair_84 rfl rfl ?_
              refine a_iadd X d_Mo_pair_85 ?_
              refine ab_topi (nI_add _ _) ?_
              refine a_lald X d_Mo_pair_86 mq_213 rfl (ab_ix_nI (by omega) (by decide)) ?_
              refine a_aload_n X 0 d_Mo_pair_87 rfl rfl ?_
              refine a_get X ff_Mo_116 d_Mo_pair_88 mq_203 rfl ?_
              refine a_iload X d_Mo_pair_91 rfl ?_
              refine a_callS X (As := [.long (lN _), .long (lN _), .int (nI _)]) fb_Mo_lowest lk_Mo_151 sm_Mo_lowest (c_Mo_low (Nat.lt_of_le_of_lt hS hT1) hT1 (by omega) hpt) rfl rfl (Nat.le_of_ble_eq_true rfl) (by decide) (by decide) (Nat.le_refl _) (Nat.le_refl _) d_Mo_pair_93 (fun v h1 hp => ?_)
              obtain ⟨rfl, rfl⟩ := hp
              exact a_lret X d_Mo_pair_96 (Nat.le_refl _) (Nat.le_refl _) ⟨mw1, mc1, hA, hsm, by first | rfl | (unfold lowR; rw [if_pos c62]), rfl⟩
            ·
              refine a_ldc2 X kc_Mo_149 d_Mo_pair_66 ?_
              refine a_goto X 96 d_Mo_pair_69 (by decide) ?_
              exact a_lret X d_Mo_pair_96 (Nat.le_refl _) (Nat.le_refl _) ⟨mw1, mc1, hA, hsm, by first | rfl | (unfold lowR; rw [if_pos c62]), rfl⟩
          ·
            exfalso
            omega
        ·
          exfalso
          omega
set_option maxHeartbeats 4000000 in
set_option maxRecDepth 20000 in
theorem c_Mo_pair_p {E : ab_E} {l : Launch} {r : hR} {s : hS} {w c : hW} {b : hB} {d : hD} {k : hK} {t : hT} {ms mk : hA} {mp : hP} {mw : Nat → Int32} {mc : hC} {md : Nat × (Nat → Int32)} {mt : hF} {me : hE} {a e f x : Int32} (ha : a < 0 ∨ nI mp.1 ≤ a) : ab_Con E l y_Mo_pair b_Mo_pair 5 (some .long) 4 91 [.ref 204, .int a, .int e, .int f, .int x] (hc r s w c b d k t ++ hm ms mk mp mw mc md mt me) 0 0 (fun v h1 => v = some (.long (-1)) ∧ h1 = hc r s w c b d k t ++ hm ms mk mp mw mc md mt me) := by
  refine ab_con (own := "HiddenRowsModel") (ini := false) (by decide) (fun h => by cases h) rfl (Nat.le_of_ble_eq_true rfl) ?_
  intro G m X
  show ab_R E G m 5 0 0 0 [(0, .ref 204), (1, .int a), (2, .int e), (3, .int f), (4, .int x)] [] (hc r s w c b d k t ++ hm ms mk mp mw mc md mt me)
  refine a_aload_n X 0 d_Mo_pair_0 rfl rfl ?_
  refine a_iload_n X 1 d_Mo_pair_1 rfl rfl ?_
  refine a_callV X (a := 203) (As := [.int _]) mq_203 rfl fb_Mo_isPlace lk_Mo_98 im_Mo_isPlace se_Mo_isPlace (c_Mo_isPlace_n ha) rfl rfl (Nat.le_of_ble_eq_true rfl) (by decide) (by decide) (Nat.le_refl _) (Nat.le_refl _) d_Mo_pair_2 (fun v h1 hp => ?_)
  obtain ⟨rfl, rfl⟩ := hp
  refine a_if_eqN X 34 (by omega) d_Mo_pair_5 (by decide) (fun c5 => ?_) (fun c5 => ?_)
  ·
    refine a_ldc2 X kc_Mo_145 d_Mo_pair_34 ?_
    exact a_lret X d_Mo_pair_37 (Nat.le_refl _) (Nat.le_refl _) ⟨rfl, rfl⟩
  ·
    exfalso
    omega
set_option maxHeartbeats 4000000 in
set_option maxRecDepth 20000 in
theorem c_Mo_pair_l {E : ab_E} {l : Launch} {r : hR} {s : hS} {w c : hW} {b : hB} {d : hD} {k : hK} {t : hT} {ms mk : hA} {mp : hP} {mw : Nat → Int32} {mc : hC} {md : Nat × (Nat → Int32)} {mt : hF} {me : hE} {p : Nat} {e f x : Int32} (hn : mp.1 ≤ 6) (hp : p + 1 = mp.1) : ab_Con E l y_Mo_pair b_Mo_pair 5 (some .long) 4 91 [.ref 204, .int (nI p), .int e, .int f, .int x] (hc r s w c b d k t ++ hm ms mk mp mw mc md mt me) 0 0 (fun v h1 => v = some (.long (-1)) ∧ h1 = hc r s w c b d k t ++ hm ms mk mp mw mc md mt me) := by
  refine ab_con (own := "HiddenRowsModel") (ini := false) (by decide) (fun h => by cases h) rfl (Nat.le_of_ble_eq_true rfl) ?_
  intro G m X
  show ab_R E G m 5 0 0 0 [(0, .ref 204), (1, .int (nI p)), (2, .int e), (3, .int f), (4, .int x)] [] (hc r s w c b d k t ++ hm ms mk mp mw mc md mt me)
  refine a_aload_n X 0 d_Mo_pair_0 rfl rfl ?_
  refine a_iload_n X 1 d_Mo_pair_1 rfl rfl ?_
  refine a_callV X (a := 203) (As := [.int _]) mq_203 rfl fb_Mo_isPlace lk_Mo_98 im_Mo_isPlace se_Mo_isPlace (c_Mo_isPlace_y (show p < mp.1 by omega) hn) rfl rfl (Nat.le_of_ble_eq_true rfl) (by decide) (by decide) (Nat.le_refl _) (Nat.le_refl _) d_Mo_pair_2 (fun v h1 hp => ?_)
  obtain ⟨rfl, rfl⟩ := hp
  refine a_if_eqN X 34 (by omega) d_Mo_pair_5 (by decide) (fun c5 => ?_) (fun c5 => ?_)
  ·
    exfalso
    omega
  ·
    refine a_iload_n X 1 d_Mo_pair_8 rfl rfl ?_
    refine a_aload_n X 0 d_Mo_pair_9 rfl rfl ?_
    refine a_get X ff_Mo_82 d_Mo_pair_10 mq_203 rfl ?_
    refine a_iconst X (v := nI 1) d_Mo_pair_13 (by decide) ?_
    refine a_isub X d_Mo_pair_14 ?_
    refine ab_topi (pk_sub (by omega)) ?_
    refine a_icmp_eqN X 34 (by omega) (by omega) d_Mo_pair_15 (by decide) (fun c15 => ?_) (fun c15 => ?_)
    ·
      refine a_ldc2 X kc_Mo_145 d_Mo_pair_34 ?_
      exact a_lret X d_Mo_pair_37 (Nat.le_refl _) (Nat.le_refl _) ⟨rfl, rfl⟩
    ·
      exfalso
      omega
set_option maxHeartbeats 4000000 in
set_option maxRecDepth 20000 in
theorem c_Mo_pair_s {E : ab_E} {l : Launch} {r : hR} {s : hS} {w c : hW} {b : hB} {d : hD} {k : hK} {t : hT} {ms mk : hA} {mp : hP} {mw : Nat → Int32} {mc : hC} {md : Nat × (Nat → Int32)} {mt : hF} {me : hE} {p : Nat} {e f x : Int32} (hn : mp.1 ≤ 6) (hp : p + 1 < mp.1) (he : e < 0 ∨ nI ms.1 ≤ e) : ab_Con E l y_Mo_pair b_Mo_pair 5 (some .long) 4 91 [.ref 204, .int (nI p), .int e, .int f, .int x] (hc r s w c b d k t ++ hm ms mk mp mw mc md mt me) 0 0 (fun v h1 => v = some (.long (-1)) ∧ h1 = hc r s w c b d k t ++ hm ms mk mp mw mc md mt me) := by
  refine ab_con (own := "HiddenRowsModel") (ini := false) (by decide) (fun h => by cases h) rfl (Nat.le_of_ble_eq_true rfl) ?_
  intro G m X
  show ab_R E G m 5 0 0 0 [(0, .ref 204), (1, .int (nI p)), (2, .int e), (3, .int f), (4, .int x)] [] (hc r s w c b d k t ++ hm ms mk mp mw mc md mt me)
  refine a_aload_n X 0 d_Mo_pair_0 rfl rfl ?_
  refine a_iload_n X 1 d_Mo_pair_1 rfl rfl ?_
  refine a_callV X (a := 203) (As := [.int _]) mq_203 rfl fb_Mo_isPlace lk_Mo_98 im_Mo_isPlace se_Mo_isPlace (c_Mo_isPlace_y (show p < mp.1 by omega) hn) rfl rfl (Nat.le_of_ble_eq_true rfl) (by decide) (by decide) (Nat.le_refl _) (Nat.le_refl _) d_Mo_pair_2 (fun v h1 hp => ?_)
  obtain ⟨rfl, rfl⟩ := hp
  refine a_if_eqN X 34 (by omega) d_Mo_pair_5 (by decide) (fun c5 => ?_) (fun c5 => ?_)
  ·
    exfalso
    omega
  ·
    refine a_iload_n X 1 d_Mo_pair_8 rfl rfl ?_
    refine a_aload_n X 0 d_Mo_pair_9 rfl rfl ?_
    refine a_get X ff_Mo_82 d_Mo_pair_10 mq_203 rfl ?_
    refine a_iconst X (v := nI 1) d_Mo_pair_13 (by decide) ?_
    refine a_isub X d_Mo_pair_14 ?_
    refine ab_topi (pk_sub (by omega)) ?_
    refine a_icmp_eqN X 34 (by omega) (by omega) d_Mo_pair_15 (by decide) (fun c15 => ?_) (fun c15 => ?_)
    ·
      exfalso
      omega
    ·
      refine a_aload_n X 0 d_Mo_pair_18 rfl rfl ?_
      refine a_iload_n X 2 d_Mo_pair_19 rfl rfl ?_
      refine a_callV X (a := 203) (As := [.int _]) mq_203 rfl fb_Mo_isState lk_Mo_88 im_Mo_isState se_Mo_isState (c_Mo_isState_n he) rfl rfl (Nat.le_of_ble_eq_true rfl) (by decide) (by decide) (Nat.le_refl _) (Nat.le_refl _) d_Mo_pair_20 (fun v h1 hp => ?_)
      obtain ⟨rfl, rfl⟩ := hp
      refine a_if_eqN X 34 (by omega) d_Mo_pair_23 (by decide) (fun c23 => ?_) (fun c23 => ?_)
      ·
        refine a_ldc2 X kc_Mo_145 d_Mo_pair_34 ?_
        exact a_lret X d_Mo_pair_37 (Nat.le_refl _) (Nat.le_refl _) ⟨rfl, rfl⟩
      ·
        exfalso
        omega
set_option maxHeartbeats 4000000 in
set_option maxRecDepth 20000 in
theorem c_Mo_pair_t {E : ab_E} {l : Launch} {r : hR} {s : hS} {w c : hW} {b : hB} {d : hD} {k : hK} {t : hT} {ms mk : hA} {mp : hP} {mw : Nat → Int32} {mc : hC} {md : Nat × (Nat → Int32)} {mt : hF} {me : hE} {p j : Nat} {f x : Int32} (hn : mp.1 ≤ 6) (hp : p + 1 < mp.1) (hq : ms.1 ≤ 4) (hj : j < ms.1) (hf : f < 0 ∨ nI ms.1 ≤ f) : ab_Con E l y_Mo_pair b_Mo_pair 5 (some .long) 4 91 [.ref 204, .int (nI p), .int (nI j), .int f, .int x] (hc r s w c b d k t ++ hm ms mk mp mw mc md mt me) 0 0 (fun v h1 => v = some (.long (-1)) ∧ h1 = hc r s w c b d k t ++ hm ms mk mp mw mc md mt me) := by
  refine ab_con (own := "HiddenRowsModel") (ini := false) (by decide) (fun h => by cases h) rfl (Nat.le_of_ble_eq_true rfl) ?_
  intro G m X
  show ab_R E G m 5 0 0 0 [(0, .ref 204), (1, .int (nI p)), (2, .int (nI j)), (3, .int f), (4, .int x)] [] (hc r s w c b d k t ++ hm ms mk mp mw mc md mt me)
  refine a_aload_n X 0 d_Mo_pair_0 rfl rfl ?_
  refine a_iload_n X 1 d_Mo_pair_1 rfl rfl ?_
  refine a_callV X (a := 203) (As := [.int _]) mq_203 rfl fb_Mo_isPlace lk_Mo_98 im_Mo_isPlace se_Mo_isPlace (c_Mo_isPlace_y (show p < mp.1 by omega) hn) rfl rfl (Nat.le_of_ble_eq_true rfl) (by decide) (by decide) (Nat.le_refl _) (Nat.le_refl _) d_Mo_pair_2 (fun v h1 hp => ?_)
  obtain ⟨rfl, rfl⟩ := hp
  refine a_if_eqN X 34 (by omega) d_Mo_pair_5 (by decide) (fun c5 => ?_) (fun c5 => ?_)
  ·
    exfalso
    omega
  ·
    refine a_iload_n X 1 d_Mo_pair_8 rfl rfl ?_
    refine a_aload_n X 0 d_Mo_pair_9 rfl rfl ?_
    refine a_get X ff_Mo_82 d_Mo_pair_10 mq_203 rfl ?_
    refine a_iconst X (v := nI 1) d_Mo_pair_13 (by decide) ?_
    refine a_isub X d_Mo_pair_14 ?_
    refine ab_topi (pk_sub (by omega)) ?_
    refine a_icmp_eqN X 34 (by omega) (by omega) d_Mo_pair_15 (by decide) (fun c15 => ?_) (fun c15 => ?_)
    ·
      exfalso
      omega
    ·
      refine a_aload_n X 0 d_Mo_pair_18 rfl rfl ?_
      refine a_iload_n X 2 d_Mo_pair_19 rfl rfl ?_
      refine a_callV X (a := 203) (As := [.int _]) mq_203 rfl fb_Mo_isState lk_Mo_88 im_Mo_isState se_Mo_isState (c_Mo_isState_y hj (by omega)) rfl rfl (Nat.le_of_ble_eq_true rfl) (by decide) (by decide) (Nat.le_refl _) (Nat.le_refl _) d_Mo_pair_20 (fun v h1 hp => ?_)
      obtain ⟨rfl, rfl⟩ := hp
      refine a_if_eqN X 34 (by omega) d_Mo_pair_23 (by decide) (fun c23 => ?_) (fun c23 => ?_)
      ·
        exfalso
        omega
      ·
        refine a_aload_n X 0 d_Mo_pair_26 rfl rfl ?_
        refine a_iload_n X 3 d_Mo_pair_27 rfl rfl ?_
        refine a_callV X (a := 203) (As := [.int _]) mq_203 rfl fb_Mo_isState lk_Mo_88 im_Mo_isState se_Mo_isState (c_Mo_isState_n hf) rfl rfl (Nat.le_of_ble_eq_true rfl) (by decide) (by decide) (Nat.le_refl _) (Nat.le_refl _) d_Mo_pair_28 (fun v h1 hp => ?_)
        obtain ⟨rfl, rfl⟩ := hp
        refine a_if_neN X 38 (by omega) d_Mo_pair_31 (by decide) (fun c31 => ?_) (fun c31 => ?_)
        ·
          exfalso
          omega
        ·
          refine a_ldc2 X kc_Mo_145 d_Mo_pair_34 ?_
          exact a_lret X d_Mo_pair_37 (Nat.le_refl _) (Nat.le_refl _) ⟨rfl, rfl⟩
set_option maxHeartbeats 4000000 in
set_option maxRecDepth 20000 in
theorem c_Mo_pair_x {E : ab_E} {l : Launch} {r : hR} {s : hS} {w c : hW} {b : hB} {d : hD} {k : hK} {t : hT} {ms mk : hA} {mp : hP} {mw : Nat → Int32} {mc : hC} {md : Nat × (Nat → Int32)} {mt : hF} {me : hE} {p j z : Nat} {x : Int32} (hn : mp.1 ≤ 6) (hp : p + 1 < mp.1) (hq : ms.1 ≤ 4) (hj : j < ms.1) (hz : z < ms.1) (hx : x ≠ 0 ∧ x ≠ nI 1) : ab_Con E l y_Mo_pair b_Mo_pair 5 (some .long) 4 91 [.ref 204, .int (nI p), .int (nI j), .int (nI z), .int x] (hc r s w c b d k t ++ hm ms mk mp mw mc md mt me) 0 0 (fun v h1 => v = some (.long (-2)) ∧ h1 = hc r s w c b d k t ++ hm ms mk mp mw mc md mt me) := by
  refine ab_con (own := "HiddenRowsModel") (ini := false) (by decide) (fun h => by cases h) rfl (Nat.le_of_ble_eq_true rfl) ?_
  intro G m X
  show ab_R E G m 5 0 0 0 [(0, .ref 204), (1, .int (nI p)), (2, .int (nI j)), (3, .int (nI z)), (4, .int x)] [] (hc r s w c b d k t ++ hm ms mk mp mw mc md mt me)
  refine a_aload_n X 0 d_Mo_pair_0 rfl rfl ?_
  refine a_iload_n X 1 d_Mo_pair_1 rfl rfl ?_
  refine a_callV X (a := 203) (As := [.int _]) mq_203 rfl fb_Mo_isPlace lk_Mo_98 im_Mo_isPlace se_Mo_isPlace (c_Mo_isPlace_y (show p < mp.1 by omega) hn) rfl rfl (Nat.le_of_ble_eq_true rfl) (by decide) (by decide) (Nat.le_refl _) (Nat.le_refl _) d_Mo_pair_2 (fun v h1 hp => ?_)
  obtain ⟨rfl, rfl⟩ := hp
  refine a_if_eqN X 34 (by omega) d_Mo_pair_5 (by decide) (fun c5 => ?_) (fun c5 => ?_)
  ·
    exfalso
    omega
  ·
    refine a_iload_n X 1 d_Mo_pair_8 rfl rfl ?_
    refine a_aload_n X 0 d_Mo_pair_9 rfl rfl ?_
    refine a_get X ff_Mo_82 d_Mo_pair_10 mq_203 rfl ?_
    refine a_iconst X (v := nI 1) d_Mo_pair_13 (by decide) ?_
    refine a_isub X d_Mo_pair_14 ?_
    refine ab_topi (pk_sub (by omega)) ?_
    refine a_icmp_eqN X 34 (by omega) (by omega) d_Mo_pair_15 (by decide) (fun c15 => ?_) (fun c15 => ?_)
    ·
      exfalso
      omega
    ·
      refine a_aload_n X 0 d_Mo_pair_18 rfl rfl ?_
      refine a_iload_n X 2 d_Mo_pair_19 rfl rfl ?_
      refine a_callV X (a := 203) (As := [.int _]) mq_203 rfl fb_Mo_isState lk_Mo_88 im_Mo_isState se_Mo_isState (c_Mo_isState_y hj (by omega)) rfl rfl (Nat.le_of_ble_eq_true rfl) (by decide) (by decide) (Nat.le_refl _) (Nat.le_refl _) d_Mo_pair_20 (fun v h1 hp => ?_)
      obtain ⟨rfl, rfl⟩ := hp
      refine a_if_eqN X 34 (by omega) d_Mo_pair_23 (by decide) (fun c23 => ?_) (fun c23 => ?_)
      ·
        exfalso
        omega
      ·
        refine a_aload_n X 0 d_Mo_pair_26 rfl rfl ?_
        refine a_iload_n X 3 d_Mo_pair_27 rfl rfl ?_
        refine a_callV X (a := 203) (As := [.int _]) mq_203 rfl fb_Mo_isState lk_Mo_88 im_Mo_isState se_Mo_isState (c_Mo_isState_y hz (by omega)) rfl rfl (Nat.le_of_ble_eq_true rfl) (by decide) (by decide) (Nat.le_refl _) (Nat.le_refl _) d_Mo_pair_28 (fun v h1 hp => ?_)
        obtain ⟨rfl, rfl⟩ := hp
        refine a_if_neN X 38 (by omega) d_Mo_pair_31 (by decide) (fun c31 => ?_) (fun c31 => ?_)
        ·
          refine a_iload X d_Mo_pair_38 rfl ?_
          refine a_if_lt X 49 d_Mo_pair_40 (by decide) (fun c40 => ?_) (fun c40 => ?_)
          ·
            refine a_ldc2 X kc_Mo_147 d_Mo_pair_49 ?_
            exact a_lret X d_Mo_pair_52 (Nat.le_refl _) (Nat.le_refl _) ⟨rfl, rfl⟩
          ·
            refine a_iload X d_Mo_pair_43 rfl ?_
            refine a_iconst X (v := nI 1) d_Mo_pair_45 (by decide) ?_
            refine a_icmp_le X 53 d_Mo_pair_46 (by decide) (fun c46 => ?_) (fun c46 => ?_)
            ·
              exfalso
              rcases i_n2 hx with q | q
              · exact c40 q
              · exact q c46
            ·
              refine a_ldc2 X kc_Mo_147 d_Mo_pair_49 ?_
              exact a_lret X d_Mo_pair_52 (Nat.le_refl _) (Nat.le_refl _) ⟨rfl, rfl⟩
        ·
          exfalso
          omega
set_option maxHeartbeats 4000000 in
set_option maxRecDepth 20000 in
theorem c_Mo_best_ok {E : ab_E} {l : Launch} {r : hR} {s : hS} {w c : hW} {b : hB} {d : hD} {k : hK} {t : hT} {ms mk : hA} {mp : hP} {mw : Nat → Int32} {mc : hC} {md : Nat × (Nat → Int32)} {mt : hF} {me : hE} {kk : Nat} (hM : okM ms mp) (hk : mc.1 = 0 ∨ mc.1 = 1 ∧ knM ms mp mc) (hkk : kk < 10) : ab_Con E l y_Mo_best b_Mo_best 2 (some .long) 4 91 [.ref 204, .int (nI kk)] (hc r s w c b d k t ++ hm ms mk mp mw mc md mt me) 0 0 (fun v h1 => ∃ (mw1 : Nat → Int32) (mc1 : hC), knM ms mp mc1 ∧ (mc.1 = 1 → mc1 = mc) ∧ v = some (.long (if kk < mc1.2.2.2.2.2.2.1 then lN (mc1.2.2.2.2.2.2.2.1 kk) else -3)) ∧ h1 = hc r s w c b d k t ++ hm ms mk mp mw1 mc1 md mt me) := by
  refine ab_con (own := "HiddenRowsModel") (ini := false) (by decide) (fun h => by cases h) rfl (Nat.le_of_ble_eq_true rfl) ?_
  intro G m X
  show ab_R E G m 2 0 0 0 [(0, .ref 204), (1, .int (nI kk))] [] (hc r s w c b d k t ++ hm ms mk mp mw mc md mt me)
  refine a_iload_n X 1 d_Mo_best_0 rfl rfl ?_
  refine a_if_ltN X 10 (by omega) d_Mo_best_1 (by decide) ?_
  refine a_iload_n X 1 d_Mo_best_4 rfl rfl ?_
  refine a_bipush X (v := nI 9) d_Mo_best_5 (by decide) ?_
  refine a_icmp_leN X 14 (by omega) (by omega) d_Mo_best_7 (by decide) (fun c7 => ?_) (fun c7 => ?_)
  ·
    refine a_aload_n X 0 d_Mo_best_14 rfl rfl ?_
    refine a_callV X (a := 203) (As := []) mq_203 rfl fb_Mo_know lk_Mo_138 im_Mo_know se_Mo_know (c_Mo_kno hM hk) rfl rfl (Nat.le_of_ble_eq_true rfl) (by decide) (by decide) (Nat.le_refl _) (Nat.le_refl _) d_Mo_best_15 (fun v h1 hp => ?_)
    obtain ⟨mw1, mc1, hA, hsm, rfl, rfl⟩ := hp
    have hK10 := (Agg_b hA (wtc_lt hM.1 hM.2.2.1 hM.2.2.2.1)).1
    refine a_iload_n X 1 d_Mo_best_18 rfl rfl ?_
    refine a_aload_n X 0 d_Mo_best_19 rfl rfl ?_
    refine a_get X ff_Mo_113 d_Mo_best_20 mq_203 rfl ?_
    refine a_icmp_geN X 35 (by omega) (by omega) d_Mo_best_23 (by decide) (fun c23 => ?_) (fun c23 => ?_)
    ·
      refine a_ldc2 X kc_Mo_149 d_Mo_best_35 ?_
      exact a_lret X d_Mo_best_38 (Nat.le_refl _) (Nat.le_refl _) ⟨mw1, mc1, hA, hsm, by first | rw [if_pos c23] | rw [if_neg (Nat.not_lt.mpr c23)], rfl⟩
    ·
      refine a_aload_n X 0 d_Mo_best_26 rfl rfl ?_
      refine a_get X ff_Mo_41 d_Mo_best_27 mq_203 rfl ?_
      refine a_iload_n X 1 d_Mo_best_30 rfl rfl ?_
      refine a_lald X d_Mo_best_31 mq_214 rfl (ab_ix_nI (by omega) (by decide)) ?_
      refine a_goto X 38 d_Mo_best_32 (by decide) ?_
      exact a_lret X d_Mo_best_38 (Nat.le_refl _) (Nat.le_refl _) ⟨mw1, mc1, hA, hsm, by first | rw [if_pos c23] | rw [if_neg (Nat.not_lt.mpr c23)], rfl⟩
  ·
    exfalso
    omega
set_option maxHeartbeats 4000000 in
set_option maxRecDepth 20000 in
theorem c_Mo_best_n {E : ab_E} {l : Launch} {r : hR} {s : hS} {w c : hW} {b : hB} {d : hD} {k : hK} {t : hT} {ms mk : hA} {mp : hP} {mw : Nat → Int32} {mc : hC} {md : Nat × (Nat → Int32)} {mt : hF} {me : hE} {x : Int32} (hx : x < 0 ∨ nI 10 ≤ x) : ab_Con E l y_Mo_best b_Mo_best 2 (some .long) 4 91 [.ref 204, .int x] (hc r s w c b d k t ++ hm ms mk mp mw mc md mt me) 0 0 (fun v h1 => v = some (.long (-2)) ∧ h1 = hc r s w c b d k t ++ hm ms mk mp mw mc md mt me) := by
  refine ab_con (own := "HiddenRowsModel") (ini := false) (by decide) (fun h => by cases h) rfl (Nat.le_of_ble_eq_true rfl) ?_
  intro G m X
  show ab_R E G m 2 0 0 0 [(0, .ref 204), (1, .int x)] [] (hc r s w c b d k t ++ hm ms mk mp mw mc md mt me)
  refine a_iload_n X 1 d_Mo_best_0 rfl rfl ?_
  refine a_if_lt X 10 d_Mo_best_1 (by decide) (fun c1 => ?_) (fun c1 => ?_)
  ·
    refine a_ldc2 X kc_Mo_147 d_Mo_best_10 ?_
    exact a_lret X d_Mo_best_13 (Nat.le_refl _) (Nat.le_refl _) ⟨rfl, rfl⟩
  ·
    refine a_iload_n X 1 d_Mo_best_4 rfl rfl ?_
    refine a_bipush X (v := nI 9) d_Mo_best_5 (by decide) ?_
    refine a_icmp_le X 14 d_Mo_best_7 (by decide) (fun c7 => ?_) (fun c7 => ?_)
    ·
      exfalso
      rcases hx with q | q
      · exact c1 q
      · exact i_n10 q c7
    ·
      refine a_ldc2 X kc_Mo_147 d_Mo_best_10 ?_
      exact a_lret X d_Mo_best_13 (Nat.le_refl _) (Nat.le_refl _) ⟨rfl, rfl⟩
set_option maxHeartbeats 4000000 in
set_option maxRecDepth 20000 in
theorem c_Mo_bestAt_ok {E : ab_E} {l : Launch} {r : hR} {s : hS} {w c : hW} {b : hB} {d : hD} {k : hK} {t : hT} {ms mk : hA} {mp : hP} {mw : Nat → Int32} {mc : hC} {md : Nat × (Nat → Int32)} {mt : hF} {me : hE} {kk p : Nat} (hM : okM ms mp) (hk : mc.1 = 0 ∨ mc.1 = 1 ∧ knM ms mp mc) (hkk : kk < 10) (hp : p < mp.1) : ab_Con E l y_Mo_bestAt b_Mo_bestAt 3 (some .int) 4 91 [.ref 204, .int (nI kk), .int (nI p)] (hc r s w c b d k t ++ hm ms mk mp mw mc md mt me) 0 0 (fun v h1 => ∃ (mw1 : Nat → Int32) (mc1 : hC), knM ms mp mc1 ∧ (mc.1 = 1 → mc1 = mc) ∧ v = some (.int (if kk < mc1.2.2.2.2.2.2.1 then mc1.2.2.2.2.2.2.2.2 (6 * kk + p) else -3)) ∧ h1 = hc r s w c b d k t ++ hm ms mk mp mw1 mc1 md mt me) := by
  have hn := hM.1
  refine ab_con (own := "HiddenRowsModel") (ini := false) (by decide) (fun h => by cases h) rfl (Nat.le_of_ble_eq_true rfl) ?_
  intro G m X
  show ab_R E G m 3 0 0 0 [(0, .ref 204), (1, .int (nI kk)), (2, .int (nI p))] [] (hc r s w c b d k t ++ hm ms mk mp mw mc md mt me)
  refine a_iload_n X 1 d_Mo_bestAt_0 rfl rfl ?_
  refine a_if_ltN X 10 (by omega) d_Mo_bestAt_1 (by decide) ?_
  refine a_iload_n X 1 d_Mo_bestAt_4 rfl rfl ?_
  refine a_bipush X (v := nI 9) d_Mo_bestAt_5 (by decide) ?_
  refine a_icmp_leN X 13 (by omega) (by omega) d_Mo_bestAt_7 (by decide) (fun c7 => ?_) (fun c7 => ?_)
  ·
    refine a_aload_n X 0 d_Mo_bestAt_13 rfl rfl ?_
    refine a_callV X (a := 203) (As := []) mq_203 rfl fb_Mo_know lk_Mo_138 im_Mo_know se_Mo_know (c_Mo_kno hM hk) rfl rfl (Nat.le_of_ble_eq_true rfl) (by decide) (by decide) (Nat.le_refl _) (Nat.le_refl _) d_Mo_bestAt_14 (fun v h1 hp => ?_)
    obtain ⟨mw1, mc1, hA, hsm, rfl, rfl⟩ := hp
    have hK10 := (Agg_b hA (wtc_lt hM.1 hM.2.2.1 hM.2.2.2.1)).1
    refine a_iload_n X 1 d_Mo_bestAt_17 rfl rfl ?_
    refine a_aload_n X 0 d_Mo_bestAt_18 rfl rfl ?_
    refine a_get X ff_Mo_113 d_Mo_bestAt_19 mq_203 rfl ?_
    refine a_icmp_ltN X 28 (by omega) (by omega) d_Mo_bestAt_22 (by decide) (fun c22 => ?_) (fun c22 => ?_)
    ·
      refine a_aload_n X 0 d_Mo_bestAt_28 rfl rfl ?_
      refine a_iload_n X 2 d_Mo_bestAt_29 rfl rfl ?_
      refine a_callV X (a := 203) (As := [.int _]) mq_203 rfl fb_Mo_isPlace lk_Mo_98 im_Mo_isPlace se_Mo_isPlace (c_Mo_isPlace_y hp hn) rfl rfl (Nat.le_of_ble_eq_true rfl) (by decide) (by decide) (Nat.le_refl _) (Nat.le_refl _) d_Mo_bestAt_30 (fun v h1 hp => ?_)
      obtain ⟨rfl, rfl⟩ := hp
      refine a_if_eqN X 50 (by omega) d_Mo_bestAt_33 (by decide) (fun c33 => ?_) (fun c33 => ?_)
      ·
        exfalso
        omega
      ·
        refine a_aload_n X 0 d_Mo_bestAt_36 rfl rfl ?_
        refine a_get X ff_Mo_44 d_Mo_bestAt_37 mq_203 rfl ?_
        refine a_bipush X (v := nI 6) d_Mo_bestAt_40 (by decide) ?_
        refine a_iload_n X 1 d_Mo_bestAt_42 rfl rfl ?_
        refine a_imul X d_Mo_bestAt_43 ?_
        refine ab_topi (pk_mul _ _) ?_
        refine a_iload_n X 2 d_Mo_bestAt_44 rfl rfl ?_
        refine a_iadd X d_Mo_bestAt_45 ?_
        refine ab_topi (nI_add _ _) ?_
        refine a_iald X d_Mo_bestAt_46 mq_215 rfl (ab_ix_nI (by omega) (by decide)) ?_
        refine a_goto X 51 d_Mo_bestAt_47 (by decide) ?_
        exact a_iret X d_Mo_bestAt_51 (Nat.le_refl _) (Nat.le_refl _) ⟨mw1, mc1, hA, hsm, by rw [if_pos c22], rfl⟩
    ·
      refine a_bipush X (v := -3) d_Mo_bestAt_25 (by decide) ?_
      exact a_iret X d_Mo_bestAt_27 (Nat.le_refl _) (Nat.le_refl _) ⟨mw1, mc1, hA, hsm, by rw [if_neg (Nat.not_lt.mpr c22)], rfl⟩
  ·
    exfalso
    omega
set_option maxHeartbeats 4000000 in
set_option maxRecDepth 20000 in
theorem c_Mo_bestAt_p {E : ab_E} {l : Launch} {r : hR} {s : hS} {w c : hW} {b : hB} {d : hD} {k : hK} {t : hT} {ms mk : hA} {mp : hP} {mw : Nat → Int32} {mc : hC} {md : Nat × (Nat → Int32)} {mt : hF} {me : hE} {kk : Nat} {e : Int32} (hM : okM ms mp) (hk : mc.1 = 0 ∨ mc.1 = 1 ∧ knM ms mp mc) (hkk : kk < 10) (he : e < 0 ∨ nI mp.1 ≤ e) : ab_Con E l y_Mo_bestAt b_Mo_bestAt 3 (some .int) 4 91 [.ref 204, .int (nI kk), .int e] (hc r s w c b d k t ++ hm ms mk mp mw mc md mt me) 0 0 (fun v h1 => ∃ (mw1 : Nat → Int32) (mc1 : hC), knM ms mp mc1 ∧ (mc.1 = 1 → mc1 = mc) ∧ v = some (.int (if kk < mc1.2.2.2.2.2.2.1 then -1 else -3)) ∧ h1 = hc r s w c b d k t ++ hm ms mk mp mw1 mc1 md mt me) := by
  have hn := hM.1
  refine ab_con (own := "HiddenRowsModel") (ini := false) (by decide) (fun h => by cases h) rfl (Nat.le_of_ble_eq_true rfl) ?_
  intro G m X
  show ab_R E G m 3 0 0 0 [(0, .ref 204), (1, .int (nI kk)), (2, .int e)] [] (hc r s w c b d k t ++ hm ms mk mp mw mc md mt me)
  refine a_iload_n X 1 d_Mo_bestAt_0 rfl rfl ?_
  refine a_if_ltN X 10 (by omega) d_Mo_bestAt_1 (by decide) ?_
  refine a_iload_n X 1 d_Mo_bestAt_4 rfl rfl ?_
  refine a_bipush X (v := nI 9) d_Mo_bestAt_5 (by decide) ?_
  refine a_icmp_leN X 13 (by omega) (by omega) d_Mo_bestAt_7 (by decide) (fun c7 => ?_) (fun c7 => ?_)
  ·
    refine a_aload_n X 0 d_Mo_bestAt_13 rfl rfl ?_
    refine a_callV X (a := 203) (As := []) mq_203 rfl fb_Mo_know lk_Mo_138 im_Mo_know se_Mo_know (c_Mo_kno hM hk) rfl rfl (Nat.le_of_ble_eq_true rfl) (by decide) (by decide) (Nat.le_refl _) (Nat.le_refl _) d_Mo_bestAt_14 (fun v h1 hp => ?_)
    obtain ⟨mw1, mc1, hA, hsm, rfl, rfl⟩ := hp
    have hK10 := (Agg_b hA (wtc_lt hM.1 hM.2.2.1 hM.2.2.2.1)).1
    refine a_iload_n X 1 d_Mo_bestAt_17 rfl rfl ?_
    refine a_aload_n X 0 d_Mo_bestAt_18 rfl rfl ?_
    refine a_get X ff_Mo_113 d_Mo_bestAt_19 mq_203 rfl ?_
    refine a_icmp_ltN X 28 (by omega) (by omega) d_Mo_bestAt_22 (by decide) (fun c22 => ?_) (fun c22 => ?_)
    ·
      refine a_aload_n X 0 d_Mo_bestAt_28 rfl rfl ?_
      refine a_iload_n X 2 d_Mo_bestAt_29 rfl rfl ?_
      refine a_callV X (a := 203) (As := [.int _]) mq_203 rfl fb_Mo_isPlace lk_Mo_98 im_Mo_isPlace se_Mo_isPlace (c_Mo_isPlace_n he) rfl rfl (Nat.le_of_ble_eq_true rfl) (by decide) (by decide) (Nat.le_refl _) (Nat.le_refl _) d_Mo_bestAt_30 (fun v h1 hp => ?_)
      obtain ⟨rfl, rfl⟩ := hp
      refine a_if_eqN X 50 (by omega) d_Mo_bestAt_33 (by decide) (fun c33 => ?_) (fun c33 => ?_)
      ·
        refine a_iconst X (v := -1) d_Mo_bestAt_50 (by decide) ?_
        exact a_iret X d_Mo_bestAt_51 (Nat.le_refl _) (Nat.le_refl _) ⟨mw1, mc1, hA, hsm, by rw [if_pos c22], rfl⟩
      ·
        exfalso
        omega
    ·
      refine a_bipush X (v := -3) d_Mo_bestAt_25 (by decide) ?_
      exact a_iret X d_Mo_bestAt_27 (Nat.le_refl _) (Nat.le_refl _) ⟨mw1, mc1, hA, hsm, by rw [if_neg (Nat.not_lt.mpr c22)], rfl⟩
  ·
    exfalso
    omega
set_option maxHeartbeats 4000000 in
set_option maxRecDepth 20000 in
theorem c_Mo_bestAt_n {E : ab_E} {l : Launch} {r : hR} {s : hS} {w c : hW} {b : hB} {d : hD} {k : hK} {t : hT} {ms mk : hA} {mp : hP} {mw : Nat → Int32} {mc : hC} {md : Nat × (Nat → Int32)} {mt : hF} {me : hE} {x e : Int32} (hx : x < 0 ∨ nI 10 ≤ x) : ab_Con E l y_Mo_bestAt b_Mo_bestAt 3 (some .int) 4 91 [.ref 204, .int x, .int e] (hc r s w c b d k t ++ hm ms mk mp mw mc md mt me) 0 0 (fun v h1 => v = some (.int (-2)) ∧ h1 = hc r s w c b d k t ++ hm ms mk mp mw mc md mt me) := by
  refine ab_con (own := "HiddenRowsModel") (ini := false) (by decide) (fun h => by cases h) rfl (Nat.le_of_ble_eq_true rfl) ?_
  intro G m X
  show ab_R E G m 3 0 0 0 [(0, .ref 204), (1, .int x), (2, .int e)] [] (hc r s w c b d k t ++ hm ms mk mp mw mc md mt me)
  refine a_iload_n X 1 d_Mo_bestAt_0 rfl rfl ?_
  refine a_if_lt X 10 d_Mo_bestAt_1 (by decide) (fun c1 => ?_) (fun c1 => ?_)
  ·
    refine a_bipush X (v := -2) d_Mo_bestAt_10 (by decide) ?_
    exact a_iret X d_Mo_bestAt_12 (Nat.le_refl _) (Nat.le_refl _) ⟨rfl, rfl⟩
  ·
    refine a_iload_n X 1 d_Mo_bestAt_4 rfl rfl ?_
    refine a_bipush X (v := nI 9) d_Mo_bestAt_5 (by decide) ?_
    refine a_icmp_le X 13 d_Mo_bestAt_7 (by decide) (fun c7 => ?_) (fun c7 => ?_)
    ·
      exfalso
      rcases hx with q | q
      · exact c1 q
      · exact i_n10 q c7
    ·
      refine a_bipush X (v := -2) d_Mo_bestAt_10 (by decide) ?_
      exact a_iret X d_Mo_bestAt_12 (Nat.le_refl _) (Nat.le_refl _) ⟨rfl, rfl⟩
set_option maxHeartbeats 4000000 in
set_option maxRecDepth 20000 in
theorem c_Mo_drawnAt_0 {E : ab_E} {l : Launch} {r : hR} {s : hS} {w c : hW} {b : hB} {d : hD} {k : hK} {t : hT} {ms mk : hA} {mp : hP} {mw : Nat → Int32} {mc : hC} {md : Nat × (Nat → Int32)} {mt : hF} {me : hE} {a : Int32} (hd : md.1 = 0) : ab_Con E l y_Mo_drawnAt b_Mo_drawnAt 2 (some .int) 1 21 [.ref 204, .int a] (hc r s w c b d k t ++ hm ms mk mp mw mc md mt me) 0 0 (fun v h1 => v = some (.int (-3)) ∧ h1 = hc r s w c b d k t ++ hm ms mk mp mw mc md mt me) := by
  refine ab_con (own := "HiddenRowsModel") (ini := false) (by decide) (fun h => by cases h) rfl (Nat.le_of_ble_eq_true rfl) ?_
  intro G m X
  show ab_R E G m 2 0 0 0 [(0, .ref 204), (1, .int a)] [] (hc r s w c b d k t ++ hm ms mk mp mw mc md mt me)
  refine a_aload_n X 0 d_Mo_drawnAt_0 rfl rfl ?_
  refine a_get X ff_Mo_72 d_Mo_drawnAt_1 mq_203 rfl ?_
  refine a_if_neN X 12 (by omega) d_Mo_drawnAt_4 (by decide) (fun c4 => ?_) (fun c4 => ?_)
  ·
    exfalso
    omega
  ·
    refine a_bipush X (v := -3) d_Mo_drawnAt_7 (by decide) ?_
    refine a_goto X 30 d_Mo_drawnAt_9 (by decide) ?_
    exact a_iret X d_Mo_drawnAt_30 (Nat.le_refl _) (Nat.le_refl _) ⟨rfl, rfl⟩
set_option maxHeartbeats 4000000 in
set_option maxRecDepth 20000 in
theorem c_Mo_drawnAt_p {E : ab_E} {l : Launch} {r : hR} {s : hS} {w c : hW} {b : hB} {d : hD} {k : hK} {t : hT} {ms mk : hA} {mp : hP} {mw : Nat → Int32} {mc : hC} {md : Nat × (Nat → Int32)} {mt : hF} {me : hE} {a : Int32} (hd : md.1 = 1) (ha : a < 0 ∨ nI mp.1 ≤ a) : ab_Con E l y_Mo_drawnAt b_Mo_drawnAt 2 (some .int) 1 21 [.ref 204, .int a] (hc r s w c b d k t ++ hm ms mk mp mw mc md mt me) 0 0 (fun v h1 => v = some (.int (-1)) ∧ h1 = hc r s w c b d k t ++ hm ms mk mp mw mc md mt me) := by
  refine ab_con (own := "HiddenRowsModel") (ini := false) (by decide) (fun h => by cases h) rfl (Nat.le_of_ble_eq_true rfl) ?_
  intro G m X
  show ab_R E G m 2 0 0 0 [(0, .ref 204), (1, .int a)] [] (hc r s w c b d k t ++ hm ms mk mp mw mc md mt me)
  refine a_aload_n X 0 d_Mo_drawnAt_0 rfl rfl ?_
  refine a_get X ff_Mo_72 d_Mo_drawnAt_1 mq_203 rfl ?_
  refine a_if_neN X 12 (by omega) d_Mo_drawnAt_4 (by decide) (fun c4 => ?_) (fun c4 => ?_)
  ·
    refine a_aload_n X 0 d_Mo_drawnAt_12 rfl rfl ?_
    refine a_iload_n X 1 d_Mo_drawnAt_13 rfl rfl ?_
    refine a_callV X (a := 203) (As := [.int _]) mq_203 rfl fb_Mo_isPlace lk_Mo_98 im_Mo_isPlace se_Mo_isPlace (c_Mo_isPlace_n ha) rfl rfl (Nat.le_of_ble_eq_true rfl) (by decide) (by decide) (Nat.le_refl _) (Nat.le_refl _) d_Mo_drawnAt_14 (fun v h1 hp => ?_)
    obtain ⟨rfl, rfl⟩ := hp
    refine a_if_eqN X 29 (by omega) d_Mo_drawnAt_17 (by decide) (fun c17 => ?_) (fun c17 => ?_)
    ·
      refine a_iconst X (v := -1) d_Mo_drawnAt_29 (by decide) ?_
      exact a_iret X d_Mo_drawnAt_30 (Nat.le_refl _) (Nat.le_refl _) ⟨rfl, rfl⟩
    ·
      exfalso
      omega
  ·
    exfalso
    omega
set_option maxHeartbeats 4000000 in
set_option maxRecDepth 20000 in
theorem c_Mo_drawnAt_ok {E : ab_E} {l : Launch} {r : hR} {s : hS} {w c : hW} {b : hB} {d : hD} {k : hK} {t : hT} {ms mk : hA} {mp : hP} {mw : Nat → Int32} {mc : hC} {md : Nat × (Nat → Int32)} {mt : hF} {me : hE} {p : Nat} (hd : md.1 = 1) (hn : mp.1 ≤ 6) (hp : p < mp.1) : ab_Con E l y_Mo_drawnAt b_Mo_drawnAt 2 (some .int) 1 21 [.ref 204, .int (nI p)] (hc r s w c b d k t ++ hm ms mk mp mw mc md mt me) 0 0 (fun v h1 => v = some (.int (md.2 p)) ∧ h1 = hc r s w c b d k t ++ hm ms mk mp mw mc md mt me) := by
  refine ab_con (own := "HiddenRowsModel") (ini := false) (by decide) (fun h => by cases h) rfl (Nat.le_of_ble_eq_true rfl) ?_
  intro G m X
  show ab_R E G m 2 0 0 0 [(0, .ref 204), (1, .int (nI p))] [] (hc r s w c b d k t ++ hm ms mk mp mw mc md mt me)
  refine a_aload_n X 0 d_Mo_drawnAt_0 rfl rfl ?_
  refine a_get X ff_Mo_72 d_Mo_drawnAt_1 mq_203 rfl ?_
  refine a_if_neN X 12 (by omega) d_Mo_drawnAt_4 (by decide) (fun c4 => ?_) (fun c4 => ?_)
  ·
    refine a_aload_n X 0 d_Mo_drawnAt_12 rfl rfl ?_
    refine a_iload_n X 1 d_Mo_drawnAt_13 rfl rfl ?_
    refine a_callV X (a := 203) (As := [.int _]) mq_203 rfl fb_Mo_isPlace lk_Mo_98 im_Mo_isPlace se_Mo_isPlace (c_Mo_isPlace_y hp hn) rfl rfl (Nat.le_of_ble_eq_true rfl) (by decide) (by decide) (Nat.le_refl _) (Nat.le_refl _) d_Mo_drawnAt_14 (fun v h1 hp => ?_)
    obtain ⟨rfl, rfl⟩ := hp
    refine a_if_eqN X 29 (by omega) d_Mo_drawnAt_17 (by decide) (fun c17 => ?_) (fun c17 => ?_)
    ·
      exfalso
      omega
    ·
      refine a_aload_n X 0 d_Mo_drawnAt_20 rfl rfl ?_
      refine a_get X ff_Mo_47 d_Mo_drawnAt_21 mq_203 rfl ?_
      refine a_iload_n X 1 d_Mo_drawnAt_24 rfl rfl ?_
      refine a_iald X d_Mo_drawnAt_25 mq_216 rfl (ab_ix_nI (by omega) (by decide)) ?_
      refine a_goto X 30 d_Mo_drawnAt_26 (by decide) ?_
      exact a_iret X d_Mo_drawnAt_30 (Nat.le_refl _) (Nat.le_refl _) ⟨rfl, rfl⟩
  ·
    exfalso
    omega
set_option maxHeartbeats 4000000 in
set_option maxRecDepth 20000 in
theorem c_Mo_top_ok {E : ab_E} {l : Launch} {r : hR} {s : hS} {w c : hW} {b : hB} {d : hD} {k : hK} {t : hT} {ms mk : hA} {mp : hP} {mw : Nat → Int32} {mc : hC} {md : Nat × (Nat → Int32)} {mt : hF} {me : hE} {p : Nat} (hM : okM ms mp) (hk : mc.1 = 0 ∨ mc.1 = 1 ∧ knM ms mp mc) (hs0 : 0 < ms.1) (hp : p < mp.1) (hT : sumR (wtc ms mp) 0 (FB mp.1) < 2 ^ 63) : ab_Con E l y_Mo_top b_Mo_top 4 (some .int) 4 91 [.ref 204, .int (nI p)] (hc r s w c b d k t ++ hm ms mk mp mw mc md mt me) 0 0 (fun v h1 => ∃ (mw1 : Nat → Int32) (mc1 : hC), knM ms mp mc1 ∧ (mc.1 = 1 → mc1 = mc) ∧ v = some (.int (if mc1.2.1 = 0 then -3 else nI (topR (fun y => mc1.2.2.2.1 (4 * p + y)) (ms.1 - 1)))) ∧ h1 = hc r s w c b d k t ++ hm ms mk mp mw1 mc1 md mt me) := by
  have hn := hM.1
  have hq := hM.2.1
  refine ab_con (own := "HiddenRowsModel") (ini := false) (by decide) (fun h => by cases h) rfl (Nat.le_of_ble_eq_true rfl) ?_
  intro G m X
  show ab_R E G m 4 0 0 0 [(0, .ref 204), (1, .int (nI p))] [] (hc r s w c b d k t ++ hm ms mk mp mw mc md mt me)
  refine a_aload_n X 0 d_Mo_top_0 rfl rfl ?_
  refine a_iload_n X 1 d_Mo_top_1 rfl rfl ?_
  refine a_callV X (a := 203) (As := [.int _]) mq_203 rfl fb_Mo_isPlace lk_Mo_98 im_Mo_isPlace se_Mo_isPlace (c_Mo_isPlace_y hp hM.1) rfl rfl (Nat.le_of_ble_eq_true rfl) (by decide) (by decide) (Nat.le_refl _) (Nat.le_refl _) d_Mo_top_2 (fun v h1 hp => ?_)
  obtain ⟨rfl, rfl⟩ := hp
  refine a_if_neN X 10 (by omega) d_Mo_top_5 (by decide) (fun c5 => ?_) (fun c5 => ?_)
  ·
    refine a_aload_n X 0 d_Mo_top_10 rfl rfl ?_
    refine a_callV X (a := 203) (As := []) mq_203 rfl fb_Mo_know lk_Mo_138 im_Mo_know se_Mo_know (c_Mo_kno hM hk) rfl rfl (Nat.le_of_ble_eq_true rfl) (by decide) (by decide) (Nat.le_refl _) (Nat.le_refl _) d_Mo_top_11 (fun v h1 hp => ?_)
    obtain ⟨mw1, mc1, hA, hsm, rfl, rfl⟩ := hp
    have hT1 : mc1.2.1 < 2 ^ 63 := by rw [hA.2.1]; exact hT
    refine a_aload_n X 0 d_Mo_top_14 rfl rfl ?_
    refine a_get X ff_Mo_116 d_Mo_top_15 mq_203 rfl ?_
    refine a_lconst X (v := lN 0) d_Mo_top_18 (by decide) ?_
    refine a_lc_ne X 26 hT1 (by omega) d_Mo_top_19 d_Mo_top_20 (by decide) (fun c19 => ?_) (fun c19 => ?_)
    ·
      refine a_iconst X (v := nI 0) d_Mo_top_26 (by decide) ?_
      refine a_istore_n X 2 d_Mo_top_27 rfl (by decide) ?_
      refine a_iconst X (v := nI 1) d_Mo_top_28 (by decide) ?_
      refine a_istore_n X 3 d_Mo_top_29 rfl (by decide) ?_
      refine ab_sub [(0, .ref 204), (1, .int (nI p)), (2, .int (nI (topR (fun y => mc1.2.2.2.1 (4 * p + y)) 0))), (3, .int (nI (0 + 1)))] rfl ?_
      suffices LP : ∀ (mm i : Nat), i + 1 ≤ ms.1 → ms.1 - i < mm → ab_R E G m 4 0 0 30 [(0, .ref 204), (1, .int (nI p)), (2, .int (nI (topR (fun y => mc1.2.2.2.1 (4 * p + y)) i))), (3, .int (nI (i + 1)))] [] (hc r s w c b d k t ++ hm ms mk mp mw1 mc1 md mt me) from LP (ms.1 + 1) 0 (by omega) (by omega)
      intro mm
      induction mm with
      | zero => intro i h1 h2; exfalso; omega
      | succ mm ih =>
        intro i h1 h2
        have htl := topR_le (fun y => mc1.2.2.2.1 (4 * p + y)) i
        refine a_iload_n X 3 d_Mo_top_30 rfl rfl ?_
        refine a_aload_n X 0 d_Mo_top_31 rfl rfl ?_
        refine a_get X ff_Mo_75 d_Mo_top_32 mq_203 rfl ?_
        refine a_icmp_geN X 74 (by omega) (by omega) d_Mo_top_35 (by decide) (fun c35 => ?_) (fun c35 => ?_)
        ·
          obtain rfl : i = ms.1 - 1 := by omega
          refine a_iload_n X 2 d_Mo_top_74 rfl rfl ?_
          exact a_iret X d_Mo_top_75 (Nat.le_refl _) (Nat.le_refl _) ⟨mw1, mc1, hA, hsm, by rw [if_neg c19], rfl⟩
        ·
          refine a_aload_n X 0 d_Mo_top_38 rfl rfl ?_
          refine a_get X ff_Mo_31 d_Mo_top_39 mq_203 rfl ?_
          refine a_iconst X (v := nI 4) d_Mo_top_42 (by decide) ?_
          refine a_iload_n X 1 d_Mo_top_43 rfl rfl ?_
          refine a_imul X d_Mo_top_44 ?_
          refine ab_topi (pk_mul _ _) ?_
          refine a_iload_n X 3 d_Mo_top_45 rfl rfl ?_
          refine a_iadd X d_Mo_top_46 ?_
          refine ab_topi (nI_add _ _) ?_
          refine a_lald X d_Mo_top_47 mq_211 rfl (ab_ix_nI (by omega) (by decide)) ?_
          refine a_aload_n X 0 d_Mo_top_48 rfl rfl ?_
          refine a_get X ff_Mo_31 d_Mo_top_49 mq_203 rfl ?_
          refine a_iconst X (v := nI 4) d_Mo_top_52 (by decide) ?_
          refine a_iload_n X 1 d_Mo_top_53 rfl rfl ?_
          refine a_imul X d_Mo_top_54 ?_
          refine ab_topi (pk_mul _ _) ?_
          refine a_iload_n X 2 d_Mo_top_55 rfl rfl ?_
          refine a_iadd X d_Mo_top_56 ?_
          refine ab_topi (nI_add _ _) ?_
          refine a_lald X d_Mo_top_57 mq_211 rfl (ab_ix_nI (by omega) (by decide)) ?_
          refine a_lc_le X 66 (Nat.lt_of_le_of_lt ((Agg_le hA).1 _ (by omega)) hT1) (Nat.lt_of_le_of_lt ((Agg_le hA).1 _ (by omega)) hT1) d_Mo_top_58 d_Mo_top_59 (by decide) (fun c58 => ?_) (fun c58 => ?_)
          ·
            have hst : topR (fun y => mc1.2.2.2.1 (4 * p + y)) (i + 1) = topR (fun y => mc1.2.2.2.1 (4 * p + y)) i := by show (if _ then i + 1 else topR _ i) = _; rw [if_neg (Nat.not_lt.mpr c58)]
            refine a_iload_n X 2 d_Mo_top_66 rfl rfl ?_
            refine a_istore_n X 2 d_Mo_top_67 rfl (by decide) ?_
            refine a_incN X d_Mo_top_68 rfl (by decide) ?_
            refine a_goto X 30 d_Mo_top_71 (by decide) ?_
            have ihh := ih (i + 1) (by omega) (by omega)
            rw [hst] at ihh
            exact ab_sub _ rfl ihh
          ·
            have hst : topR (fun y => mc1.2.2.2.1 (4 * p + y)) (i + 1) = i + 1 := by show (if _ then i + 1 else topR _ i) = _; rw [if_pos c58]
            refine a_iload_n X 3 d_Mo_top_62 rfl rfl ?_
            refine a_goto X 67 d_Mo_top_63 (by decide) ?_
            refine a_istore_n X 2 d_Mo_top_67 rfl (by decide) ?_
            refine a_incN X d_Mo_top_68 rfl (by decide) ?_
            refine a_goto X 30 d_Mo_top_71 (by decide) ?_
            have ihh := ih (i + 1) (by omega) (by omega)
            rw [hst] at ihh
            exact ab_sub _ rfl ihh
    ·
      refine a_bipush X (v := -3) d_Mo_top_23 (by decide) ?_
      exact a_iret X d_Mo_top_25 (Nat.le_refl _) (Nat.le_refl _) ⟨mw1, mc1, hA, hsm, by rw [if_pos c19], rfl⟩
  ·
    exfalso
    omega
set_option maxHeartbeats 4000000 in
set_option maxRecDepth 20000 in
theorem c_Mo_top_p {E : ab_E} {l : Launch} {r : hR} {s : hS} {w c : hW} {b : hB} {d : hD} {k : hK} {t : hT} {ms mk : hA} {mp : hP} {mw : Nat → Int32} {mc : hC} {md : Nat × (Nat → Int32)} {mt : hF} {me : hE} {a : Int32} (ha : a < 0 ∨ nI mp.1 ≤ a) : ab_Con E l y_Mo_top b_Mo_top 4 (some .int) 4 91 [.ref 204, .int a] (hc r s w c b d k t ++ hm ms mk mp mw mc md mt me) 0 0 (fun v h1 => v = some (.int (-1)) ∧ h1 = hc r s w c b d k t ++ hm ms mk mp mw mc md mt me) := by
  refine ab_con (own := "HiddenRowsModel") (ini := false) (by decide) (fun h => by cases h) rfl (Nat.le_of_ble_eq_true rfl) ?_
  intro G m X
  show ab_R E G m 4 0 0 0 [(0, .ref 204), (1, .int a)] [] (hc r s w c b d k t ++ hm ms mk mp mw mc md mt me)
  refine a_aload_n X 0 d_Mo_top_0 rfl rfl ?_
  refine a_iload_n X 1 d_Mo_top_1 rfl rfl ?_
  refine a_callV X (a := 203) (As := [.int _]) mq_203 rfl fb_Mo_isPlace lk_Mo_98 im_Mo_isPlace se_Mo_isPlace (c_Mo_isPlace_n ha) rfl rfl (Nat.le_of_ble_eq_true rfl) (by decide) (by decide) (Nat.le_refl _) (Nat.le_refl _) d_Mo_top_2 (fun v h1 hp => ?_)
  obtain ⟨rfl, rfl⟩ := hp
  refine a_if_neN X 10 (by omega) d_Mo_top_5 (by decide) (fun c5 => ?_) (fun c5 => ?_)
  ·
    exfalso
    omega
  ·
    refine a_iconst X (v := -1) d_Mo_top_8 (by decide) ?_
    exact a_iret X d_Mo_top_9 (Nat.le_refl _) (Nat.le_refl _) ⟨rfl, rfl⟩
