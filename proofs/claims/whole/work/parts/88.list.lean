set_option maxHeartbeats 4000000 in
set_option maxRecDepth 20000 in
theorem c_Bw_lWh_0 {E : ab_E} {l : Launch} {r : hR} {s : hS} {w c : hW} {b : hB} {d : hD} {k : hK} {t : hT} {Z : List ab_C} (hn0 : r.2.2 = 0) : ab_Con E l y_Bw_listWhole b_Bw_listWhole 2 none 3 74 [.ref 92] (hc r s w c b d k t ++ Z) 0 0 (fun v h1 => v = none ∧ h1 = hc r s w c (va_up b.1 0 ((b.1 0).1, (b.1 0).2.1, 0), b.2) d k t ++ Z) := by
  refine ab_con (own := "HiddenRows$BestWays") (ini := false) (by decide) (fun h => by cases h) rfl (Nat.le_of_ble_eq_true rfl) ?_
  intro G m X
  show ab_R E G m 2 0 0 0 [(0, .ref 92)] [] (hc r s w c b d k t ++ Z)
  refine a_aload_n X 0 d_Bw_listWhole_0 rfl rfl ?_
  refine a_get X ff_Bw_18 d_Bw_listWhole_1 hq_91 rfl ?_
  refine a_iconst X (v := nI 0) d_Bw_listWhole_4 (by decide) ?_
  refine a_put X ff_Bw_61 d_Bw_listWhole_5 (hr_lo (i := 0) (by omega)) (Nat.le_of_ble_eq_true rfl) rfl rfl ?_
  refine ab_hp (hw_lo (i := 0) (v := 0) (by omega)) ?_
  refine a_aload_n X 0 d_Bw_listWhole_8 rfl rfl ?_
  refine a_get X ff_Bw_26 d_Bw_listWhole_9 hq_91 rfl ?_
  refine a_get X ff_Bw_43 d_Bw_listWhole_12 hq_1 rfl ?_
  refine a_if_leN X 63 (by omega) d_Bw_listWhole_15 (by decide) (fun c15 => ?_) (fun c15 => ?_)
  ·
    exact a_vret X d_Bw_listWhole_63 (Nat.le_refl _) (Nat.le_refl _) ⟨rfl, rfl⟩
  ·
    exact absurd c15 (by omega)
set_option maxHeartbeats 4000000 in
set_option maxRecDepth 20000 in
theorem c_Bw_list_0 {E : ab_E} {l : Launch} {r : hR} {s : hS} {w c : hW} {b : hB} {d : hD} {k : hK} {t : hT} {Z : List ab_C} (hr : okR r) (hs : okS s) (hk : w.2.2.2.2.2 = 0 ∨ w.2.2.2.2.2 = 1 ∧ okW id r s w) (hb : b.2 = 0) (hn0 : r.2.2 = 0) : ab_Con E l y_Bw_list b_Bw_list 3 (some (.object "HiddenRows$WayList")) 5 129 [.ref 92] (hc r s w c b d k t ++ Z) 0 0 (fun v h1 => ∃ w1 : hW, okW id r s w1 ∧ w1.2.2.2.2.2 = 1 ∧ (w.2.2.2.2.2 = 1 → w1 = w) ∧ v = some (.ref 94) ∧ h1 = hc r s w1 c (va_up b.1 0 ((b.1 0).1, (b.1 0).2.1, 0), 1) d k t ++ Z) := by
  refine ab_con (own := "HiddenRows$BestWays") (ini := false) (by decide) (fun h => by cases h) rfl (Nat.le_of_ble_eq_true rfl) ?_
  intro G m X
  show ab_R E G m 3 0 0 0 [(0, .ref 92)] [] (hc r s w c b d k t ++ Z)
  refine a_aload_n X 0 d_Bw_list_0 rfl rfl ?_
  refine a_get X ff_Bw_22 d_Bw_list_1 hq_91 rfl ?_
  refine a_if_neN X 68 (by omega) d_Bw_list_4 (by decide) (fun c4 => ?_) (fun c4 => ?_)
  ·
    exact absurd c4 (by omega)
  ·
    refine a_aload_n X 0 d_Bw_list_7 rfl rfl ?_
    refine a_iconst X (v := nI 1) d_Bw_list_8 (by decide) ?_
    refine a_put X ff_Bw_22 d_Bw_list_9 hq_91 (Nat.le_of_ble_eq_true rfl) rfl rfl ?_
    refine ab_hp hs_bk ?_
    refine a_aload_n X 0 d_Bw_list_12 rfl rfl ?_
    refine a_get X ff_Bw_34 d_Bw_list_13 hq_91 rfl ?_
    refine a_callV X (a := 15) (As := []) hq_15 rfl fb_Ws_refresh lk_Bw_38 im_Ws_refresh se_Ws_refresh (c_ref_w hr hs hk) rfl rfl (Nat.le_of_ble_eq_true rfl) (by decide) (by decide) (Nat.le_refl _) (Nat.le_refl _) d_Bw_list_16 (fun v h1 hp => ?_)
    obtain ⟨rfl, w1, hok, hkn, hsm, rfl⟩ := hp
    refine a_aload_n X 0 d_Bw_list_19 rfl rfl ?_
    refine a_get X ff_Bw_26 d_Bw_list_20 hq_91 rfl ?_
    refine a_get X ff_Bw_43 d_Bw_list_23 hq_1 rfl ?_
    refine a_iconst X (v := nI 1) d_Bw_list_26 (by decide) ?_
    refine a_isub X d_Bw_list_27 ?_
    refine ab_topi (show nI r.2.2 - nI 1 = (-1 : Int32) by rw [hn0]; decide) ?_
    refine a_istore_n X 1 d_Bw_list_28 rfl (by decide) ?_
    refine a_iload_n X 1 d_Bw_list_29 rfl rfl ?_
    refine a_if_lt X 64 d_Bw_list_30 (by decide) (fun c30 => ?_) (fun c30 => ?_)
    ·
      refine a_aload_n X 0 d_Bw_list_64 rfl rfl ?_
      refine a_callV X (a := 91) (As := []) hq_91 rfl fb_Bw_listWhole lk_Bw_58 im_Bw_listWhole se_Bw_listWhole (c_Bw_lWh_0 hn0) rfl rfl (Nat.le_of_ble_eq_true rfl) (by decide) (by decide) (Nat.le_refl _) (Nat.le_refl _) d_Bw_list_65 (fun v h1 hp => ?_)
      obtain ⟨rfl, rfl⟩ := hp
      refine a_aload_n X 0 d_Bw_list_68 rfl rfl ?_
      refine a_get X ff_Bw_18 d_Bw_list_69 hq_91 rfl ?_
      exact a_aret X (Or.inl ⟨_, rfl⟩) d_Bw_list_72 (Nat.le_refl _) (Nat.le_refl _) ⟨w1, hok, hkn, hsm, rfl, rfl⟩
    ·
      exact absurd (show (-1 : Int32) < 0 by decide) c30
set_option maxHeartbeats 4000000 in
set_option maxRecDepth 20000 in
theorem c_H_best_n {E : ab_E} {l : Launch} {r : hR} {s : hS} {w c : hW} {b : hB} {d : hD} {k : hK} {t : hT} {Z : List ab_C} {x : Int32} (hx : x < 0 ∨ nI 10 ≤ x) : ab_Con E l y_H_best b_H_best 3 (some .long) 6 151 [.ref 1, .int x] (hc r s w c b d k t ++ Z) 0 0 (fun v h1 => v = some (.long (-2)) ∧ h1 = hc r s w c b d k t ++ Z) := by
  refine ab_con (own := "HiddenRows") (ini := false) (by decide) (fun h => by cases h) rfl (Nat.le_of_ble_eq_true rfl) ?_
  intro G m X
  show ab_R E G m 3 0 0 0 [(0, .ref 1), (1, .int x)] [] (hc r s w c b d k t ++ Z)
  refine a_iload_n X 1 d_H_best_0 rfl rfl ?_
  refine a_if_lt X 10 d_H_best_1 (by decide) (fun c1 => ?_) (fun c1 => ?_)
  ·
    refine a_ldc2 X kc_H_128 d_H_best_10 ?_
    exact a_lret X d_H_best_13 (Nat.le_refl _) (Nat.le_refl _) ⟨rfl, rfl⟩
  ·
    refine a_iload_n X 1 d_H_best_4 rfl rfl ?_
    refine a_bipush X (v := nI 10) d_H_best_5 (by decide) ?_
    refine a_icmp_lt X 14 d_H_best_7 (by decide) (fun c7 => ?_) (fun c7 => ?_)
    ·
      exfalso
      rcases hx with q | q
      · exact c1 q
      · exact Int32.not_lt.mpr q c7
    ·
      refine a_ldc2 X kc_H_128 d_H_best_10 ?_
      exact a_lret X d_H_best_13 (Nat.le_refl _) (Nat.le_refl _) ⟨rfl, rfl⟩
set_option maxHeartbeats 4000000 in
set_option maxRecDepth 20000 in
theorem c_H_bestAt_n {E : ab_E} {l : Launch} {r : hR} {s : hS} {w c : hW} {b : hB} {d : hD} {k : hK} {t : hT} {Z : List ab_C} {x e : Int32} (hx : x < 0 ∨ nI 10 ≤ x) : ab_Con E l y_H_bestAt b_H_bestAt 4 (some .int) 6 151 [.ref 1, .int x, .int e] (hc r s w c b d k t ++ Z) 0 0 (fun v h1 => v = some (.int (-2)) ∧ h1 = hc r s w c b d k t ++ Z) := by
  refine ab_con (own := "HiddenRows") (ini := false) (by decide) (fun h => by cases h) rfl (Nat.le_of_ble_eq_true rfl) ?_
  intro G m X
  show ab_R E G m 4 0 0 0 [(0, .ref 1), (1, .int x), (2, .int e)] [] (hc r s w c b d k t ++ Z)
  refine a_iload_n X 1 d_H_bestAt_0 rfl rfl ?_
  refine a_if_lt X 10 d_H_bestAt_1 (by decide) (fun c1 => ?_) (fun c1 => ?_)
  ·
    refine a_bipush X (v := -2) d_H_bestAt_10 (by decide) ?_
    exact a_iret X d_H_bestAt_12 (Nat.le_refl _) (Nat.le_refl _) ⟨rfl, rfl⟩
  ·
    refine a_iload_n X 1 d_H_bestAt_4 rfl rfl ?_
    refine a_bipush X (v := nI 10) d_H_bestAt_5 (by decide) ?_
    refine a_icmp_lt X 13 d_H_bestAt_7 (by decide) (fun c7 => ?_) (fun c7 => ?_)
    ·
      exfalso
      rcases hx with q | q
      · exact c1 q
      · exact Int32.not_lt.mpr q c7
    ·
      refine a_bipush X (v := -2) d_H_bestAt_10 (by decide) ?_
      exact a_iret X d_H_bestAt_12 (Nat.le_refl _) (Nat.le_refl _) ⟨rfl, rfl⟩
