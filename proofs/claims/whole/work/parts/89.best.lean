set_option maxHeartbeats 4000000 in
set_option maxRecDepth 20000 in
theorem c_H_best_ok {E : ab_E} {l : Launch} {r : hR} {s : hS} {w c : hW} {b : hB} {d : hD} {k : hK} {t : hT} {Z : List ab_C} {kk : Nat} {Pr : hW → (Nat → hL) → Prop} (hC : ab_Con E l y_Bw_list b_Bw_list 3 (some (.object "HiddenRows$WayList")) 5 129 [.ref 92] (hc r s w c b d k t ++ Z) 0 0 (fun v h1 => ∃ (w1 : hW) (f : Nat → hL), Pr w1 f ∧ v = some (.ref 94) ∧ h1 = hc r s w1 c (f, 1) d k t ++ Z)) (hsz : ∀ w1 f, Pr w1 f → (f 0).2.2 ≤ 10) (hkk : kk < 10) : ab_Con E l y_H_best b_H_best 3 (some .long) 6 151 [.ref 1, .int (nI kk)] (hc r s w c b d k t ++ Z) 0 0 (fun v h1 => ∃ (w1 : hW) (f : Nat → hL), Pr w1 f ∧ v = some (.long (if kk < (f 0).2.2 then lN ((f 0).1 kk) else -3)) ∧ h1 = hc r s w1 c (f, 1) d k t ++ Z) := by
  refine ab_con (own := "HiddenRows") (ini := false) (by decide) (fun h => by cases h) rfl (Nat.le_of_ble_eq_true rfl) ?_
  intro G m X
  show ab_R E G m 3 0 0 0 [(0, .ref 1), (1, .int (nI kk))] [] (hc r s w c b d k t ++ Z)
  refine a_iload_n X 1 d_H_best_0 rfl rfl ?_
  refine a_if_ltN X 10 (by omega) d_H_best_1 (by decide) ?_
  refine a_iload_n X 1 d_H_best_4 rfl rfl ?_
  refine a_bipush X (v := nI 10) d_H_best_5 (by decide) ?_
  refine a_icmp_ltN X 14 (by omega) (by omega) d_H_best_7 (by decide) (fun c7 => ?_) (fun c7 => ?_)
  ·
    refine a_aload_n X 0 d_H_best_14 rfl rfl ?_
    refine a_get X ff_H_40 d_H_best_15 hq_0 rfl ?_
    refine a_callV X (a := 91) (As := []) hq_91 rfl fb_Bw_list lk_H_145 im_Bw_list se_Bw_list (hC) rfl rfl (Nat.le_of_ble_eq_true rfl) (by decide) (by decide) (Nat.le_refl _) (Nat.le_refl _) d_H_best_18 (fun v h1 hpp => ?_)
    obtain ⟨w1, f, hPr, rfl, rfl⟩ := hpp
    have hs10 := hsz w1 f hPr
    refine a_astore_n X 2 d_H_best_21 rfl (by decide) ?_
    refine a_iload_n X 1 d_H_best_22 rfl rfl ?_
    refine a_aload_n X 2 d_H_best_23 rfl rfl ?_
    refine a_get X ff_H_149 d_H_best_24 (hr_lo (i := 0) (by omega)) rfl ?_
    refine a_icmp_geN X 39 (by omega) (Nat.lt_of_le_of_lt hs10 (by omega)) d_H_best_27 (by decide) (fun c27 => ?_) (fun c27 => ?_)
    ·
      have c27 : (f 0).2.2 ≤ kk := c27
      refine a_ldc2 X kc_H_157 d_H_best_39 ?_
      exact a_lret X d_H_best_42 (Nat.le_refl _) (Nat.le_refl _) ⟨w1, f, hPr, by first | rw [if_pos c27] | rw [if_neg (Nat.not_lt.mpr c27)], rfl⟩
    ·
      have c27 : kk < (f 0).2.2 := c27
      refine a_aload_n X 2 d_H_best_30 rfl rfl ?_
      refine a_get X ff_H_154 d_H_best_31 (hr_lo (i := 0) (by omega)) rfl ?_
      refine a_iload_n X 1 d_H_best_34 rfl rfl ?_
      refine a_lald X d_H_best_35 (hr_lw (i := 0) (by omega)) rfl (ab_ix_nI (by omega) (by decide)) ?_
      refine a_goto X 42 d_H_best_36 (by decide) ?_
      exact a_lret X d_H_best_42 (Nat.le_refl _) (Nat.le_refl _) ⟨w1, f, hPr, by first | rw [if_pos c27] | rw [if_neg (Nat.not_lt.mpr c27)], rfl⟩
  ·
    exfalso
    omega
set_option maxHeartbeats 4000000 in
set_option maxRecDepth 20000 in
theorem c_H_bestAt_ok {E : ab_E} {l : Launch} {r : hR} {s : hS} {w c : hW} {b : hB} {d : hD} {k : hK} {t : hT} {Z : List ab_C} {kk p : Nat} {Pr : hW → (Nat → hL) → Prop} (hC : ab_Con E l y_Bw_list b_Bw_list 3 (some (.object "HiddenRows$WayList")) 5 129 [.ref 92] (hc r s w c b d k t ++ Z) 0 0 (fun v h1 => ∃ (w1 : hW) (f : Nat → hL), Pr w1 f ∧ v = some (.ref 94) ∧ h1 = hc r s w1 c (f, 1) d k t ++ Z)) (hsz : ∀ w1 f, Pr w1 f → (f 0).2.2 ≤ 10) (hto : ∀ w1 f, Pr w1 f → ∀ i, i < (f 0).2.2 → (f 0).2.1 i < 2 ^ 31) (hkk : kk < 10) (hn : r.2.2 ≤ 6) (hp : p < r.2.2) : ab_Con E l y_H_bestAt b_H_bestAt 4 (some .int) 6 151 [.ref 1, .int (nI kk), .int (nI p)] (hc r s w c b d k t ++ Z) 0 0 (fun v h1 => ∃ (w1 : hW) (f : Nat → hL), Pr w1 f ∧ v = some (.int (if kk < (f 0).2.2 then nI ((f 0).2.1 kk / 2 ^ (3 * (r.2.2 - 1 - p)) % 8) else -3)) ∧ h1 = hc r s w1 c (f, 1) d k t ++ Z) := by
  refine ab_con (own := "HiddenRows") (ini := false) (by decide) (fun h => by cases h) rfl (Nat.le_of_ble_eq_true rfl) ?_
  intro G m X
  show ab_R E G m 4 0 0 0 [(0, .ref 1), (1, .int (nI kk)), (2, .int (nI p))] [] (hc r s w c b d k t ++ Z)
  refine a_iload_n X 1 d_H_bestAt_0 rfl rfl ?_
  refine a_if_ltN X 10 (by omega) d_H_bestAt_1 (by decide) ?_
  refine a_iload_n X 1 d_H_bestAt_4 rfl rfl ?_
  refine a_bipush X (v := nI 10) d_H_bestAt_5 (by decide) ?_
  refine a_icmp_ltN X 13 (by omega) (by omega) d_H_bestAt_7 (by decide) (fun c7 => ?_) (fun c7 => ?_)
  ·
    refine a_aload_n X 0 d_H_bestAt_13 rfl rfl ?_
    refine a_get X ff_H_40 d_H_bestAt_14 hq_0 rfl ?_
    refine a_callV X (a := 91) (As := []) hq_91 rfl fb_Bw_list lk_H_145 im_Bw_list se_Bw_list (hC) rfl rfl (Nat.le_of_ble_eq_true rfl) (by decide) (by decide) (Nat.le_refl _) (Nat.le_refl _) d_H_bestAt_17 (fun v h1 hpp => ?_)
    obtain ⟨w1, f, hPr, rfl, rfl⟩ := hpp
    have hs10 := hsz w1 f hPr
    refine a_astore_n X 3 d_H_bestAt_20 rfl (by decide) ?_
    refine a_iload_n X 1 d_H_bestAt_21 rfl rfl ?_
    refine a_aload_n X 3 d_H_bestAt_22 rfl rfl ?_
    refine a_get X ff_H_149 d_H_bestAt_23 (hr_lo (i := 0) (by omega)) rfl ?_
    refine a_icmp_ltN X 32 (by omega) (Nat.lt_of_le_of_lt hs10 (by omega)) d_H_bestAt_26 (by decide) (fun c26 => ?_) (fun c26 => ?_)
    ·
      have c26 : kk < (f 0).2.2 := c26
      refine a_aload_n X 0 d_H_bestAt_32 rfl rfl ?_
      refine a_get X ff_H_12 d_H_bestAt_33 hq_0 rfl ?_
      refine a_iload_n X 2 d_H_bestAt_36 rfl rfl ?_
      refine a_callV X (a := 1) (As := [.int _]) hq_1 rfl fb_Ro_has lk_H_114 im_Ro_has se_Ro_has (c_Ro_has_y hp hn) rfl rfl (Nat.le_of_ble_eq_true rfl) (by decide) (by decide) (Nat.le_refl _) (Nat.le_refl _) d_H_bestAt_37 (fun v h1 hp => ?_)
      obtain ⟨rfl, rfl⟩ := hp
      refine a_if_eqN X 60 (by omega) d_H_bestAt_40 (by decide) (fun c40 => ?_) (fun c40 => ?_)
      ·
        exfalso
        omega
      ·
        refine a_aload_n X 0 d_H_bestAt_43 rfl rfl ?_
        refine a_get X ff_H_12 d_H_bestAt_44 hq_0 rfl ?_
        refine a_aload_n X 3 d_H_bestAt_47 rfl rfl ?_
        refine a_get X ff_H_159 d_H_bestAt_48 (hr_lo (i := 0) (by omega)) rfl ?_
        refine a_iload_n X 1 d_H_bestAt_51 rfl rfl ?_
        refine a_iald X d_H_bestAt_52 (hr_lt (i := 0) (by omega)) rfl (ab_ix_nI (by omega) (by decide)) ?_
        refine a_iload_n X 2 d_H_bestAt_53 rfl rfl ?_
        refine a_callV X (a := 1) (As := [.int (nI _), .int (nI _)]) hq_1 rfl fb_Ro_toldAt lk_H_162 im_Ro_toldAt se_Ro_toldAt (c_tat hn (hto w1 f hPr kk c26) hp) rfl rfl (Nat.le_of_ble_eq_true rfl) (by decide) (by decide) (Nat.le_refl _) (Nat.le_refl _) d_H_bestAt_54 (fun v h1 hp => ?_)
        obtain ⟨rfl, rfl⟩ := hp
        refine a_goto X 61 d_H_bestAt_57 (by decide) ?_
        exact a_iret X d_H_bestAt_61 (Nat.le_refl _) (Nat.le_refl _) ⟨w1, f, hPr, by rw [if_pos c26], rfl⟩
    ·
      have c26 : (f 0).2.2 ≤ kk := c26
      refine a_bipush X (v := -3) d_H_bestAt_29 (by decide) ?_
      exact a_iret X d_H_bestAt_31 (Nat.le_refl _) (Nat.le_refl _) ⟨w1, f, hPr, by rw [if_neg (Nat.not_lt.mpr c26)], rfl⟩
  ·
    exfalso
    omega
set_option maxHeartbeats 4000000 in
set_option maxRecDepth 20000 in
theorem c_H_bestAt_p {E : ab_E} {l : Launch} {r : hR} {s : hS} {w c : hW} {b : hB} {d : hD} {k : hK} {t : hT} {Z : List ab_C} {kk : Nat} {e : Int32} {Pr : hW → (Nat → hL) → Prop} (hC : ab_Con E l y_Bw_list b_Bw_list 3 (some (.object "HiddenRows$WayList")) 5 129 [.ref 92] (hc r s w c b d k t ++ Z) 0 0 (fun v h1 => ∃ (w1 : hW) (f : Nat → hL), Pr w1 f ∧ v = some (.ref 94) ∧ h1 = hc r s w1 c (f, 1) d k t ++ Z)) (hsz : ∀ w1 f, Pr w1 f → (f 0).2.2 ≤ 10) (hkk : kk < 10) (he : e < 0 ∨ nI r.2.2 ≤ e) : ab_Con E l y_H_bestAt b_H_bestAt 4 (some .int) 6 151 [.ref 1, .int (nI kk), .int e] (hc r s w c b d k t ++ Z) 0 0 (fun v h1 => ∃ (w1 : hW) (f : Nat → hL), Pr w1 f ∧ v = some (.int (if kk < (f 0).2.2 then -1 else -3)) ∧ h1 = hc r s w1 c (f, 1) d k t ++ Z) := by
  refine ab_con (own := "HiddenRows") (ini := false) (by decide) (fun h => by cases h) rfl (Nat.le_of_ble_eq_true rfl) ?_
  intro G m X
  show ab_R E G m 4 0 0 0 [(0, .ref 1), (1, .int (nI kk)), (2, .int e)] [] (hc r s w c b d k t ++ Z)
  refine a_iload_n X 1 d_H_bestAt_0 rfl rfl ?_
  refine a_if_ltN X 10 (by omega) d_H_bestAt_1 (by decide) ?_
  refine a_iload_n X 1 d_H_bestAt_4 rfl rfl ?_
  refine a_bipush X (v := nI 10) d_H_bestAt_5 (by decide) ?_
  refine a_icmp_ltN X 13 (by omega) (by omega) d_H_bestAt_7 (by decide) (fun c7 => ?_) (fun c7 => ?_)
  ·
    refine a_aload_n X 0 d_H_bestAt_13 rfl rfl ?_
    refine a_get X ff_H_40 d_H_bestAt_14 hq_0 rfl ?_
    refine a_callV X (a := 91) (As := []) hq_91 rfl fb_Bw_list lk_H_145 im_Bw_list se_Bw_list (hC) rfl rfl (Nat.le_of_ble_eq_true rfl) (by decide) (by decide) (Nat.le_refl _) (Nat.le_refl _) d_H_bestAt_17 (fun v h1 hpp => ?_)
    obtain ⟨w1, f, hPr, rfl, rfl⟩ := hpp
    have hs10 := hsz w1 f hPr
    refine a_astore_n X 3 d_H_bestAt_20 rfl (by decide) ?_
    refine a_iload_n X 1 d_H_bestAt_21 rfl rfl ?_
    refine a_aload_n X 3 d_H_bestAt_22 rfl rfl ?_
    refine a_get X ff_H_149 d_H_bestAt_23 (hr_lo (i := 0) (by omega)) rfl ?_
    refine a_icmp_ltN X 32 (by omega) (Nat.lt_of_le_of_lt hs10 (by omega)) d_H_bestAt_26 (by decide) (fun c26 => ?_) (fun c26 => ?_)
    ·
      have c26 : kk < (f 0).2.2 := c26
      refine a_aload_n X 0 d_H_bestAt_32 rfl rfl ?_
      refine a_get X ff_H_12 d_H_bestAt_33 hq_0 rfl ?_
      refine a_iload_n X 2 d_H_bestAt_36 rfl rfl ?_
      refine a_callV X (a := 1) (As := [.int _]) hq_1 rfl fb_Ro_has lk_H_114 im_Ro_has se_Ro_has (c_Ro_has_n he) rfl rfl (Nat.le_of_ble_eq_true rfl) (by decide) (by decide) (Nat.le_refl _) (Nat.le_refl _) d_H_bestAt_37 (fun v h1 hp => ?_)
      obtain ⟨rfl, rfl⟩ := hp
      refine a_if_eqN X 60 (by omega) d_H_bestAt_40 (by decide) (fun c40 => ?_) (fun c40 => ?_)
      ·
        refine a_iconst X (v := -1) d_H_bestAt_60 (by decide) ?_
        exact a_iret X d_H_bestAt_61 (Nat.le_refl _) (Nat.le_refl _) ⟨w1, f, hPr, by rw [if_pos c26], rfl⟩
      ·
        exfalso
        omega
    ·
      have c26 : (f 0).2.2 ≤ kk := c26
      refine a_bipush X (v := -3) d_H_bestAt_29 (by decide) ?_
      exact a_iret X d_H_bestAt_31 (Nat.le_refl _) (Nat.le_refl _) ⟨w1, f, hPr, by rw [if_neg (Nat.not_lt.mpr c26)], rfl⟩
  ·
    exfalso
    omega
