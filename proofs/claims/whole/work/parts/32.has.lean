set_option maxHeartbeats 4000000 in
set_option maxRecDepth 20000 in
theorem c_Ro_has_y {E : ab_E} {l : Launch} {r : hR} {s : hS} {w c : hW} {b : hB} {d : hD} {k : hK} {t : hT} {Z : List ab_C} {j : Nat} (hj : j < r.2.2) (hl : r.2.2 ≤ 6) : ab_Con E l y_Ro_has b_Ro_has 2 (some .boolean) 0 0 [.ref 2, .int (nI j)] (hc r s w c b d k t ++ Z) 0 0 (fun v h1 => v = some (.int (nI 1)) ∧ h1 = hc r s w c b d k t ++ Z) := by
  refine ab_con (own := "HiddenRows$Row") (ini := false) (by decide) (fun h => by cases h) rfl (Nat.le_of_ble_eq_true rfl) ?_
  intro G m X
  show ab_R E G m 2 0 0 0 [(0, .ref 2), (1, .int (nI j))] [] (hc r s w c b d k t ++ Z)
  refine a_iload_n X 1 d_Ro_has_0 rfl rfl ?_
  refine a_if_ltN X 22 (by omega) d_Ro_has_1 (by decide) ?_
  refine a_iload_n X 1 d_Ro_has_4 rfl rfl ?_
  refine a_aload_n X 0 d_Ro_has_5 rfl rfl ?_
  refine a_get X ff_Ro_18 d_Ro_has_6 hq_1 rfl ?_
  refine a_icmp_geN X 22 (by omega) (by omega) d_Ro_has_9 (by decide) (fun c9 => ?_) (fun c9 => ?_)
  ·
    exfalso
    omega
  ·
    refine a_iload_n X 1 d_Ro_has_12 rfl rfl ?_
    refine a_bipush X (v := nI 6) d_Ro_has_13 (by decide) ?_
    refine a_icmp_geN X 22 (by omega) (by omega) d_Ro_has_15 (by decide) (fun c15 => ?_) (fun c15 => ?_)
    ·
      exfalso
      omega
    ·
      refine a_iconst X (v := nI 1) d_Ro_has_18 (by decide) ?_
      refine a_goto X 23 d_Ro_has_19 (by decide) ?_
      exact a_zret X rfl d_Ro_has_23 (Nat.le_refl _) (Nat.le_refl _) ⟨rfl, rfl⟩
set_option maxHeartbeats 4000000 in
set_option maxRecDepth 20000 in
theorem c_Ro_has_n {E : ab_E} {l : Launch} {r : hR} {s : hS} {w c : hW} {b : hB} {d : hD} {k : hK} {t : hT} {Z : List ab_C} {x : Int32} (hx : x < 0 ∨ nI r.2.2 ≤ x) : ab_Con E l y_Ro_has b_Ro_has 2 (some .boolean) 0 0 [.ref 2, .int x] (hc r s w c b d k t ++ Z) 0 0 (fun v h1 => v = some (.int (nI 0)) ∧ h1 = hc r s w c b d k t ++ Z) := by
  refine ab_con (own := "HiddenRows$Row") (ini := false) (by decide) (fun h => by cases h) rfl (Nat.le_of_ble_eq_true rfl) ?_
  intro G m X
  show ab_R E G m 2 0 0 0 [(0, .ref 2), (1, .int x)] [] (hc r s w c b d k t ++ Z)
  refine a_iload_n X 1 d_Ro_has_0 rfl rfl ?_
  refine a_if_lt X 22 d_Ro_has_1 (by decide) (fun c1 => ?_) (fun c1 => ?_)
  ·
    refine a_iconst X (v := nI 0) d_Ro_has_22 (by decide) ?_
    exact a_zret X rfl d_Ro_has_23 (Nat.le_refl _) (Nat.le_refl _) ⟨rfl, rfl⟩
  ·
    refine a_iload_n X 1 d_Ro_has_4 rfl rfl ?_
    refine a_aload_n X 0 d_Ro_has_5 rfl rfl ?_
    refine a_get X ff_Ro_18 d_Ro_has_6 hq_1 rfl ?_
    refine a_icmp_ge X 22 d_Ro_has_9 (by decide) (fun c9 => ?_) (fun c9 => ?_)
    ·
      refine a_iconst X (v := nI 0) d_Ro_has_22 (by decide) ?_
      exact a_zret X rfl d_Ro_has_23 (Nat.le_refl _) (Nat.le_refl _) ⟨rfl, rfl⟩
    ·
      exfalso
      rcases hx with q | q
      · exact c1 q
      · exact c9 q
set_option maxHeartbeats 4000000 in
set_option maxRecDepth 20000 in
theorem c_St_has_y {E : ab_E} {l : Launch} {r : hR} {s : hS} {w c : hW} {b : hB} {d : hD} {k : hK} {t : hT} {Z : List ab_C} {j : Nat} (hj : j < s.2.2) (hl : s.2.2 ≤ 4) : ab_Con E l y_St_has b_St_has 2 (some .boolean) 0 0 [.ref 5, .int (nI j)] (hc r s w c b d k t ++ Z) 0 0 (fun v h1 => v = some (.int (nI 1)) ∧ h1 = hc r s w c b d k t ++ Z) := by
  refine ab_con (own := "HiddenRows$States") (ini := false) (by decide) (fun h => by cases h) rfl (Nat.le_of_ble_eq_true rfl) ?_
  intro G m X
  show ab_R E G m 2 0 0 0 [(0, .ref 5), (1, .int (nI j))] [] (hc r s w c b d k t ++ Z)
  refine a_iload_n X 1 d_St_has_0 rfl rfl ?_
  refine a_if_ltN X 21 (by omega) d_St_has_1 (by decide) ?_
  refine a_iload_n X 1 d_St_has_4 rfl rfl ?_
  refine a_aload_n X 0 d_St_has_5 rfl rfl ?_
  refine a_get X ff_St_19 d_St_has_6 hq_4 rfl ?_
  refine a_icmp_geN X 21 (by omega) (by omega) d_St_has_9 (by decide) (fun c9 => ?_) (fun c9 => ?_)
  ·
    exfalso
    omega
  ·
    refine a_iload_n X 1 d_St_has_12 rfl rfl ?_
    refine a_iconst X (v := nI 4) d_St_has_13 (by decide) ?_
    refine a_icmp_geN X 21 (by omega) (by omega) d_St_has_14 (by decide) (fun c14 => ?_) (fun c14 => ?_)
    ·
      exfalso
      omega
    ·
      refine a_iconst X (v := nI 1) d_St_has_17 (by decide) ?_
      refine a_goto X 22 d_St_has_18 (by decide) ?_
      exact a_zret X rfl d_St_has_22 (Nat.le_refl _) (Nat.le_refl _) ⟨rfl, rfl⟩
set_option maxHeartbeats 4000000 in
set_option maxRecDepth 20000 in
theorem c_St_has_n {E : ab_E} {l : Launch} {r : hR} {s : hS} {w c : hW} {b : hB} {d : hD} {k : hK} {t : hT} {Z : List ab_C} {x : Int32} (hx : x < 0 ∨ nI s.2.2 ≤ x) : ab_Con E l y_St_has b_St_has 2 (some .boolean) 0 0 [.ref 5, .int x] (hc r s w c b d k t ++ Z) 0 0 (fun v h1 => v = some (.int (nI 0)) ∧ h1 = hc r s w c b d k t ++ Z) := by
  refine ab_con (own := "HiddenRows$States") (ini := false) (by decide) (fun h => by cases h) rfl (Nat.le_of_ble_eq_true rfl) ?_
  intro G m X
  show ab_R E G m 2 0 0 0 [(0, .ref 5), (1, .int x)] [] (hc r s w c b d k t ++ Z)
  refine a_iload_n X 1 d_St_has_0 rfl rfl ?_
  refine a_if_lt X 21 d_St_has_1 (by decide) (fun c1 => ?_) (fun c1 => ?_)
  ·
    refine a_iconst X (v := nI 0) d_St_has_21 (by decide) ?_
    exact a_zret X rfl d_St_has_22 (Nat.le_refl _) (Nat.le_refl _) ⟨rfl, rfl⟩
  ·
    refine a_iload_n X 1 d_St_has_4 rfl rfl ?_
    refine a_aload_n X 0 d_St_has_5 rfl rfl ?_
    refine a_get X ff_St_19 d_St_has_6 hq_4 rfl ?_
    refine a_icmp_ge X 21 d_St_has_9 (by decide) (fun c9 => ?_) (fun c9 => ?_)
    ·
      refine a_iconst X (v := nI 0) d_St_has_21 (by decide) ?_
      exact a_zret X rfl d_St_has_22 (Nat.le_refl _) (Nat.le_refl _) ⟨rfl, rfl⟩
    ·
      exfalso
      rcases hx with q | q
      · exact c1 q
      · exact c9 q
set_option maxHeartbeats 4000000 in
set_option maxRecDepth 20000 in
theorem c_Ki_has_y {E : ab_E} {l : Launch} {r : hR} {s : hS} {w c : hW} {b : hB} {d : hD} {k : hK} {t : hT} {Z : List ab_C} {j : Nat} (hj : j < k.2.2) (hl : k.2.2 ≤ 4) : ab_Con E l y_Ki_has b_Ki_has 2 (some .boolean) 0 0 [.ref 170, .int (nI j)] (hc r s w c b d k t ++ Z) 0 0 (fun v h1 => v = some (.int (nI 1)) ∧ h1 = hc r s w c b d k t ++ Z) := by
  refine ab_con (own := "HiddenRows$Kinds") (ini := false) (by decide) (fun h => by cases h) rfl (Nat.le_of_ble_eq_true rfl) ?_
  intro G m X
  show ab_R E G m 2 0 0 0 [(0, .ref 170), (1, .int (nI j))] [] (hc r s w c b d k t ++ Z)
  refine a_iload_n X 1 d_Ki_has_0 rfl rfl ?_
  refine a_if_ltN X 21 (by omega) d_Ki_has_1 (by decide) ?_
  refine a_iload_n X 1 d_Ki_has_4 rfl rfl ?_
  refine a_aload_n X 0 d_Ki_has_5 rfl rfl ?_
  refine a_get X ff_Ki_19 d_Ki_has_6 hq_169 rfl ?_
  refine a_icmp_geN X 21 (by omega) (by omega) d_Ki_has_9 (by decide) (fun c9 => ?_) (fun c9 => ?_)
  ·
    exfalso
    omega
  ·
    refine a_iload_n X 1 d_Ki_has_12 rfl rfl ?_
    refine a_iconst X (v := nI 4) d_Ki_has_13 (by decide) ?_
    refine a_icmp_geN X 21 (by omega) (by omega) d_Ki_has_14 (by decide) (fun c14 => ?_) (fun c14 => ?_)
    ·
      exfalso
      omega
    ·
      refine a_iconst X (v := nI 1) d_Ki_has_17 (by decide) ?_
      refine a_goto X 22 d_Ki_has_18 (by decide) ?_
      exact a_zret X rfl d_Ki_has_22 (Nat.le_refl _) (Nat.le_refl _) ⟨rfl, rfl⟩
set_option maxHeartbeats 4000000 in
set_option maxRecDepth 20000 in
theorem c_Ki_has_n {E : ab_E} {l : Launch} {r : hR} {s : hS} {w c : hW} {b : hB} {d : hD} {k : hK} {t : hT} {Z : List ab_C} {x : Int32} (hx : x < 0 ∨ nI k.2.2 ≤ x) : ab_Con E l y_Ki_has b_Ki_has 2 (some .boolean) 0 0 [.ref 170, .int x] (hc r s w c b d k t ++ Z) 0 0 (fun v h1 => v = some (.int (nI 0)) ∧ h1 = hc r s w c b d k t ++ Z) := by
  refine ab_con (own := "HiddenRows$Kinds") (ini := false) (by decide) (fun h => by cases h) rfl (Nat.le_of_ble_eq_true rfl) ?_
  intro G m X
  show ab_R E G m 2 0 0 0 [(0, .ref 170), (1, .int x)] [] (hc r s w c b d k t ++ Z)
  refine a_iload_n X 1 d_Ki_has_0 rfl rfl ?_
  refine a_if_lt X 21 d_Ki_has_1 (by decide) (fun c1 => ?_) (fun c1 => ?_)
  ·
    refine a_iconst X (v := nI 0) d_Ki_has_21 (by decide) ?_
    exact a_zret X rfl d_Ki_has_22 (Nat.le_refl _) (Nat.le_refl _) ⟨rfl, rfl⟩
  ·
    refine a_iload_n X 1 d_Ki_has_4 rfl rfl ?_
    refine a_aload_n X 0 d_Ki_has_5 rfl rfl ?_
    refine a_get X ff_Ki_19 d_Ki_has_6 hq_169 rfl ?_
    refine a_icmp_ge X 21 d_Ki_has_9 (by decide) (fun c9 => ?_) (fun c9 => ?_)
    ·
      refine a_iconst X (v := nI 0) d_Ki_has_21 (by decide) ?_
      exact a_zret X rfl d_Ki_has_22 (Nat.le_refl _) (Nat.le_refl _) ⟨rfl, rfl⟩
    ·
      exfalso
      rcases hx with q | q
      · exact c1 q
      · exact c9 q
