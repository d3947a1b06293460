set_option maxHeartbeats 4000000 in
set_option maxRecDepth 20000 in
theorem c_H_state_ok {E : ab_E} {l : Launch} {r : hR} {s : hS} {w c : hW} {b : hB} {d : hD} {k : hK} {t : hT} {Z : List ab_C} (hq : s.2.2 < 4) : ab_Con E l y_H_state b_H_state 1 (some .int) 1 20 [.ref 1] (hc r s w c b d k t ++ Z) 0 0 (fun v h1 => v = some (.int (nI s.2.2)) ∧ h1 = hc r (up2 (up2 (up2 s.1 s.2.2 0 1) s.2.2 1 1) s.2.2 2 1, s.2.1, s.2.2 + 1) (w.1, w.2.1, w.2.2.1, w.2.2.2.1, w.2.2.2.2.1, 0) (c.1, c.2.1, c.2.2.1, c.2.2.2.1, c.2.2.2.2.1, 0) (b.1, 0) (d.1, d.2.1, d.2.2.1, d.2.2.2.1, d.2.2.2.2.1, 0) k t ++ Z) := by
  refine ab_con (own := "HiddenRows") (ini := false) (by decide) (fun h => by cases h) rfl (Nat.le_of_ble_eq_true rfl) ?_
  intro G m X
  show ab_R E G m 1 0 0 0 [(0, .ref 1)] [] (hc r s w c b d k t ++ Z)
  refine a_aload_n X 0 d_H_state_0 rfl rfl ?_
  refine a_get X ff_H_19 d_H_state_1 hq_0 rfl ?_
  refine a_get X ff_H_67 d_H_state_4 hq_4 rfl ?_
  refine a_iconst X (v := nI 4) d_H_state_7 (by decide) ?_
  refine a_icmp_ltN X 14 (by omega) (by omega) d_H_state_8 (by decide) (fun c8 => ?_) (fun c8 => ?_)
  ·
    refine a_aload_n X 0 d_H_state_14 rfl rfl ?_
    refine a_callV X (a := 0) (As := []) hq_0 rfl fb_H_forgetWays lk_H_71 im_H_forgetWays se_H_forgetWays (c_fgw) rfl rfl (Nat.le_of_ble_eq_true rfl) (by decide) (by decide) (Nat.le_refl _) (Nat.le_refl _) d_H_state_15 (fun v h1 hp => ?_)
    obtain ⟨rfl, rfl⟩ := hp
    refine a_aload_n X 0 d_H_state_18 rfl rfl ?_
    refine a_get X ff_H_19 d_H_state_19 hq_0 rfl ?_
    refine a_callV X (a := 4) (As := []) hq_4 rfl fb_St_addOne lk_H_74 im_St_addOne se_St_addOne (c_add1 hq) rfl rfl (Nat.le_of_ble_eq_true rfl) (by decide) (by decide) (Nat.le_refl _) (Nat.le_refl _) d_H_state_22 (fun v h1 hp => ?_)
    obtain ⟨rfl, rfl⟩ := hp
    exact a_iret X d_H_state_25 (Nat.le_refl _) (Nat.le_refl _) ⟨rfl, rfl⟩
  ·
    exfalso
    omega
set_option maxHeartbeats 4000000 in
set_option maxRecDepth 20000 in
theorem c_H_state_no {E : ab_E} {l : Launch} {r : hR} {s : hS} {w c : hW} {b : hB} {d : hD} {k : hK} {t : hT} {Z : List ab_C} (hq : s.2.2 = 4) : ab_Con E l y_H_state b_H_state 1 (some .int) 1 20 [.ref 1] (hc r s w c b d k t ++ Z) 0 0 (fun v h1 => v = some (.int (-4)) ∧ h1 = hc r s w c b d k t ++ Z) := by
  refine ab_con (own := "HiddenRows") (ini := false) (by decide) (fun h => by cases h) rfl (Nat.le_of_ble_eq_true rfl) ?_
  intro G m X
  show ab_R E G m 1 0 0 0 [(0, .ref 1)] [] (hc r s w c b d k t ++ Z)
  refine a_aload_n X 0 d_H_state_0 rfl rfl ?_
  refine a_get X ff_H_19 d_H_state_1 hq_0 rfl ?_
  refine a_get X ff_H_67 d_H_state_4 hq_4 rfl ?_
  refine a_iconst X (v := nI 4) d_H_state_7 (by decide) ?_
  refine a_icmp_ltN X 14 (by omega) (by omega) d_H_state_8 (by decide) (fun c8 => ?_) (fun c8 => ?_)
  ·
    exfalso
    omega
  ·
    refine a_bipush X (v := -4) d_H_state_11 (by decide) ?_
    exact a_iret X d_H_state_13 (Nat.le_refl _) (Nat.le_refl _) ⟨rfl, rfl⟩
set_option maxHeartbeats 4000000 in
set_option maxRecDepth 20000 in
theorem c_H_weight_ok {E : ab_E} {l : Launch} {r : hR} {s : hS} {w c : hW} {b : hB} {d : hD} {k : hK} {t : hT} {Z : List ab_C} {j z x : Nat} (hq : s.2.2 ≤ 4) (hj : j < s.2.2) (hz : z < 9) (hx : x ≤ 4) : ab_Con E l y_H_weight b_H_weight 5 (some .int) 1 21 [.ref 1, .int (nI j), .int (nI z), .int (nI x)] (hc r s w c b d k t ++ Z) 0 0 (fun v h1 => v = some (.int (nI (s.1 j z))) ∧ h1 = hc r (up2 s.1 j z x, s.2.1, s.2.2) (w.1, w.2.1, w.2.2.1, w.2.2.2.1, w.2.2.2.2.1, 0) (c.1, c.2.1, c.2.2.1, c.2.2.2.1, c.2.2.2.2.1, 0) (b.1, 0) (d.1, d.2.1, d.2.2.1, d.2.2.2.1, d.2.2.2.2.1, 0) k t ++ Z) := by
  refine ab_con (own := "HiddenRows") (ini := false) (by decide) (fun h => by cases h) rfl (Nat.le_of_ble_eq_true rfl) ?_
  intro G m X
  show ab_R E G m 5 0 0 0 [(0, .ref 1), (1, .int (nI j)), (2, .int (nI z)), (3, .int (nI x))] [] (hc r s w c b d k t ++ Z)
  refine a_aload_n X 0 d_H_weight_0 rfl rfl ?_
  refine a_get X ff_H_19 d_H_weight_1 hq_0 rfl ?_
  refine a_iload_n X 1 d_H_weight_4 rfl rfl ?_
  refine a_callV X (a := 4) (As := [.int _]) hq_4 rfl fb_St_has lk_H_78 im_St_has se_St_has (c_St_has_y hj hq) rfl rfl (Nat.le_of_ble_eq_true rfl) (by decide) (by decide) (Nat.le_refl _) (Nat.le_refl _) d_H_weight_5 (fun v h1 hp => ?_)
  obtain ⟨rfl, rfl⟩ := hp
  refine a_if_eqN X 21 (by omega) d_H_weight_8 (by decide) (fun c8 => ?_) (fun c8 => ?_)
  ·
    exfalso
    omega
  ·
    refine a_iload_n X 2 d_H_weight_11 rfl rfl ?_
    refine a_if_ltN X 21 (by omega) d_H_weight_12 (by decide) ?_
    refine a_iload_n X 2 d_H_weight_15 rfl rfl ?_
    refine a_bipush X (v := nI 9) d_H_weight_16 (by decide) ?_
    refine a_icmp_ltN X 23 (by omega) (by omega) d_H_weight_18 (by decide) (fun c18 => ?_) (fun c18 => ?_)
    ·
      refine a_iload_n X 3 d_H_weight_23 rfl rfl ?_
      refine a_callS X (As := [.int _]) fb_H_isWeight lk_H_82 sm_H_isWeight (c_isW_y hx) rfl rfl (Nat.le_of_ble_eq_true rfl) (by decide) (by decide) (Nat.le_refl _) (Nat.le_refl _) d_H_weight_24 (fun v h1 hp => ?_)
      obtain ⟨rfl, rfl⟩ := hp
      refine a_if_neN X 33 (by omega) d_H_weight_27 (by decide) (fun c27 => ?_) (fun c27 => ?_)
      ·
        refine a_aload_n X 0 d_H_weight_33 rfl rfl ?_
        refine a_callV X (a := 0) (As := []) hq_0 rfl fb_H_forgetWays lk_H_71 im_H_forgetWays se_H_forgetWays (c_fgw) rfl rfl (Nat.le_of_ble_eq_true rfl) (by decide) (by decide) (Nat.le_refl _) (Nat.le_refl _) d_H_weight_34 (fun v h1 hp => ?_)
        obtain ⟨rfl, rfl⟩ := hp
        refine a_aload_n X 0 d_H_weight_37 rfl rfl ?_
        refine a_get X ff_H_19 d_H_weight_38 hq_0 rfl ?_
        refine a_get X ff_H_85 d_H_weight_41 hq_4 rfl ?_
        refine a_iload_n X 1 d_H_weight_44 rfl rfl ?_
        refine a_aald X d_H_weight_45 hq_5 rfl rfl (ab_ix_nI (by omega) (by decide)) (hg_wt (by omega)) ?_
        refine a_iload_n X 2 d_H_weight_46 rfl rfl ?_
        refine a_iald X d_H_weight_47 (hr_wt (by omega)) rfl (ab_ix_nI (by omega) (by decide)) ?_
        refine a_istore X d_H_weight_48 (by decide) ?_
        refine a_aload_n X 0 d_H_weight_50 rfl rfl ?_
        refine a_get X ff_H_19 d_H_weight_51 hq_0 rfl ?_
        refine a_get X ff_H_85 d_H_weight_54 hq_4 rfl ?_
        refine a_iload_n X 1 d_H_weight_57 rfl rfl ?_
        refine a_aald X d_H_weight_58 hq_5 rfl rfl (ab_ix_nI (by omega) (by decide)) (hg_wt (by omega)) ?_
        refine a_iload_n X 2 d_H_weight_59 rfl rfl ?_
        refine a_iload_n X 3 d_H_weight_60 rfl rfl ?_
        refine a_iast X d_H_weight_61 (hr_wt (by omega)) rfl (ab_ix_nI (by omega) (by decide)) ?_
        refine ab_hp (hw_wt (by omega)) ?_
        refine a_iload X d_H_weight_62 rfl ?_
        exact a_iret X d_H_weight_64 (Nat.le_refl _) (Nat.le_refl _) ⟨rfl, rfl⟩
      ·
        exfalso
        omega
    ·
      exfalso
      omega
set_option maxHeartbeats 4000000 in
set_option maxRecDepth 20000 in
theorem c_H_weight_s {E : ab_E} {l : Launch} {r : hR} {s : hS} {w c : hW} {b : hB} {d : hD} {k : hK} {t : hT} {Z : List ab_C} {a e x : Int32} (ha : a < 0 ∨ nI s.2.2 ≤ a) : ab_Con E l y_H_weight b_H_weight 5 (some .int) 1 21 [.ref 1, .int a, .int e, .int x] (hc r s w c b d k t ++ Z) 0 0 (fun v h1 => v = some (.int (-1)) ∧ h1 = hc r s w c b d k t ++ Z) := by
  refine ab_con (own := "HiddenRows") (ini := false) (by decide) (fun h => by cases h) rfl (Nat.le_of_ble_eq_true rfl) ?_
  intro G m X
  show ab_R E G m 5 0 0 0 [(0, .ref 1), (1, .int a), (2, .int e), (3, .int x)] [] (hc r s w c b d k t ++ Z)
  refine a_aload_n X 0 d_H_weight_0 rfl rfl ?_
  refine a_get X ff_H_19 d_H_weight_1 hq_0 rfl ?_
  refine a_iload_n X 1 d_H_weight_4 rfl rfl ?_
  refine a_callV X (a := 4) (As := [.int _]) hq_4 rfl fb_St_has lk_H_78 im_St_has se_St_has (c_St_has_n ha) rfl rfl (Nat.le_of_ble_eq_true rfl) (by decide) (by decide) (Nat.le_refl _) (Nat.le_refl _) d_H_weight_5 (fun v h1 hp => ?_)
  obtain ⟨rfl, rfl⟩ := hp
  refine a_if_eqN X 21 (by omega) d_H_weight_8 (by decide) (fun c8 => ?_) (fun c8 => ?_)
  ·
    refine a_iconst X (v := -1) d_H_weight_21 (by decide) ?_
    exact a_iret X d_H_weight_22 (Nat.le_refl _) (Nat.le_refl _) ⟨rfl, rfl⟩
  ·
    exfalso
    omega
set_option maxHeartbeats 4000000 in
set_option maxRecDepth 20000 in
theorem c_H_weight_w {E : ab_E} {l : Launch} {r : hR} {s : hS} {w c : hW} {b : hB} {d : hD} {k : hK} {t : hT} {Z : List ab_C} {j : Nat} {e x : Int32} (hq : s.2.2 ≤ 4) (hj : j < s.2.2) (he : e < 0 ∨ nI 9 ≤ e) : ab_Con E l y_H_weight b_H_weight 5 (some .int) 1 21 [.ref 1, .int (nI j), .int e, .int x] (hc r s w c b d k t ++ Z) 0 0 (fun v h1 => v = some (.int (-1)) ∧ h1 = hc r s w c b d k t ++ Z) := by
  refine ab_con (own := "HiddenRows") (ini := false) (by decide) (fun h => by cases h) rfl (Nat.le_of_ble_eq_true rfl) ?_
  intro G m X
  show ab_R E G m 5 0 0 0 [(0, .ref 1), (1, .int (nI j)), (2, .int e), (3, .int x)] [] (hc r s w c b d k t ++ Z)
  refine a_aload_n X 0 d_H_weight_0 rfl rfl ?_
  refine a_get X ff_H_19 d_H_weight_1 hq_0 rfl ?_
  refine a_iload_n X 1 d_H_weight_4 rfl rfl ?_
  refine a_callV X (a := 4) (As := [.int _]) hq_4 rfl fb_St_has lk_H_78 im_St_has se_St_has (c_St_has_y hj hq) rfl rfl (Nat.le_of_ble_eq_true rfl) (by decide) (by decide) (Nat.le_refl _) (Nat.le_refl _) d_H_weight_5 (fun v h1 hp => ?_)
  obtain ⟨rfl, rfl⟩ := hp
  refine a_if_eqN X 21 (by omega) d_H_weight_8 (by decide) (fun c8 => ?_) (fun c8 => ?_)
  ·
    exfalso
    omega
  ·
    refine a_iload_n X 2 d_H_weight_11 rfl rfl ?_
    refine a_if_lt X 21 d_H_weight_12 (by decide) (fun c12 => ?_) (fun c12 => ?_)
    ·
      refine a_iconst X (v := -1) d_H_weight_21 (by decide) ?_
      exact a_iret X d_H_weight_22 (Nat.le_refl _) (Nat.le_refl _) ⟨rfl, rfl⟩
    ·
      refine a_iload_n X 2 d_H_weight_15 rfl rfl ?_
      refine a_bipush X (v := nI 9) d_H_weight_16 (by decide) ?_
      refine a_icmp_lt X 23 d_H_weight_18 (by decide) (fun c18 => ?_) (fun c18 => ?_)
      ·
        exfalso
        rcases he with q | q
        · exact c12 q
        · exact absurd c18 (fun z => by have := Int32.not_lt.mpr q; exact this z)
      ·
        refine a_iconst X (v := -1) d_H_weight_21 (by decide) ?_
        exact a_iret X d_H_weight_22 (Nat.le_refl _) (Nat.le_refl _) ⟨rfl, rfl⟩
set_option maxHeartbeats 4000000 in
set_option maxRecDepth 20000 in
theorem c_H_weight_x {E : ab_E} {l : Launch} {r : hR} {s : hS} {w c : hW} {b : hB} {d : hD} {k : hK} {t : hT} {Z : List ab_C} {j z : Nat} {x : Int32} (hq : s.2.2 ≤ 4) (hj : j < s.2.2) (hz : z < 9) (hx : x < 0 ∨ nI 4 < x) : ab_Con E l y_H_weight b_H_weight 5 (some .int) 1 21 [.ref 1, .int (nI j), .int (nI z), .int x] (hc r s w c b d k t ++ Z) 0 0 (fun v h1 => v = some (.int (-2)) ∧ h1 = hc r s w c b d k t ++ Z) := by
  refine ab_con (own := "HiddenRows") (ini := false) (by decide) (fun h => by cases h) rfl (Nat.le_of_ble_eq_true rfl) ?_
  intro G m X
  show ab_R E G m 5 0 0 0 [(0, .ref 1), (1, .int (nI j)), (2, .int (nI z)), (3, .int x)] [] (hc r s w c b d k t ++ Z)
  refine a_aload_n X 0 d_H_weight_0 rfl rfl ?_
  refine a_get X ff_H_19 d_H_weight_1 hq_0 rfl ?_
  refine a_iload_n X 1 d_H_weight_4 rfl rfl ?_
  refine a_callV X (a := 4) (As := [.int _]) hq_4 rfl fb_St_has lk_H_78 im_St_has se_St_has (c_St_has_y hj hq) rfl rfl (Nat.le_of_ble_eq_true rfl) (by decide) (by decide) (Nat.le_refl _) (Nat.le_refl _) d_H_weight_5 (fun v h1 hp => ?_)
  obtain ⟨rfl, rfl⟩ := hp
  refine a_if_eqN X 21 (by omega) d_H_weight_8 (by decide) (fun c8 => ?_) (fun c8 => ?_)
  ·
    exfalso
    omega
  ·
    refine a_iload_n X 2 d_H_weight_11 rfl rfl ?_
    refine a_if_ltN X 21 (by omega) d_H_weight_12 (by decide) ?_
    refine a_iload_n X 2 d_H_weight_15 rfl rfl ?_
    refine a_bipush X (v := nI 9) d_H_weight_16 (by decide) ?_
    refine a_icmp_ltN X 23 (by omega) (by omega) d_H_weight_18 (by decide) (fun c18 => ?_) (fun c18 => ?_)
    ·
      refine a_iload_n X 3 d_H_weight_23 rfl rfl ?_
      refine a_callS X (As := [.int _]) fb_H_isWeight lk_H_82 sm_H_isWeight (c_isW_n hx) rfl rfl (Nat.le_of_ble_eq_true rfl) (by decide) (by decide) (Nat.le_refl _) (Nat.le_refl _) d_H_weight_24 (fun v h1 hp => ?_)
      obtain ⟨rfl, rfl⟩ := hp
      refine a_if_neN X 33 (by omega) d_H_weight_27 (by decide) (fun c27 => ?_) (fun c27 => ?_)
      ·
        exfalso
        omega
      ·
        refine a_bipush X (v := -2) d_H_weight_30 (by decide) ?_
        exact a_iret X d_H_weight_32 (Nat.le_refl _) (Nat.le_refl _) ⟨rfl, rfl⟩
    ·
      exfalso
      omega
set_option maxHeartbeats 4000000 in
set_option maxRecDepth 20000 in
theorem c_H_move_ok {E : ab_E} {l : Launch} {r : hR} {s : hS} {w c : hW} {b : hB} {d : hD} {k : hK} {t : hT} {Z : List ab_C} {j z x : Nat} (hq : s.2.2 ≤ 4) (hj : j < s.2.2) (hz : z < s.2.2) (hx : x ≤ 4) : ab_Con E l y_H_move b_H_move 5 (some .int) 1 21 [.ref 1, .int (nI j), .int (nI z), .int (nI x)] (hc r s w c b d k t ++ Z) 0 0 (fun v h1 => v = some (.int (nI (s.2.1 j z))) ∧ h1 = hc r (s.1, up2 s.2.1 j z x, s.2.2) (w.1, w.2.1, w.2.2.1, w.2.2.2.1, w.2.2.2.2.1, 0) (c.1, c.2.1, c.2.2.1, c.2.2.2.1, c.2.2.2.2.1, 0) (b.1, 0) (d.1, d.2.1, d.2.2.1, d.2.2.2.1, d.2.2.2.2.1, 0) k t ++ Z) := by
  refine ab_con (own := "HiddenRows") (ini := false) (by decide) (fun h => by cases h) rfl (Nat.le_of_ble_eq_true rfl) ?_
  intro G m X
  show ab_R E G m 5 0 0 0 [(0, .ref 1), (1, .int (nI j)), (2, .int (nI z)), (3, .int (nI x))] [] (hc r s w c b d k t ++ Z)
  refine a_aload_n X 0 d_H_move_0 rfl rfl ?_
  refine a_get X ff_H_19 d_H_move_1 hq_0 rfl ?_
  refine a_iload_n X 1 d_H_move_4 rfl rfl ?_
  refine a_callV X (a := 4) (As := [.int _]) hq_4 rfl fb_St_has lk_H_78 im_St_has se_St_has (c_St_has_y hj hq) rfl rfl (Nat.le_of_ble_eq_true rfl) (by decide) (by decide) (Nat.le_refl _) (Nat.le_refl _) d_H_move_5 (fun v h1 hp => ?_)
  obtain ⟨rfl, rfl⟩ := hp
  refine a_if_eqN X 22 (by omega) d_H_move_8 (by decide) (fun c8 => ?_) (fun c8 => ?_)
  ·
    exfalso
    omega
  ·
    refine a_aload_n X 0 d_H_move_11 rfl rfl ?_
    refine a_get X ff_H_19 d_H_move_12 hq_0 rfl ?_
    refine a_iload_n X 2 d_H_move_15 rfl rfl ?_
    refine a_callV X (a := 4) (As := [.int _]) hq_4 rfl fb_St_has lk_H_78 im_St_has se_St_has (c_St_has_y hz hq) rfl rfl (Nat.le_of_ble_eq_true rfl) (by decide) (by decide) (Nat.le_refl _) (Nat.le_refl _) d_H_move_16 (fun v h1 hp => ?_)
    obtain ⟨rfl, rfl⟩ := hp
    refine a_if_neN X 24 (by omega) d_H_move_19 (by decide) (fun c19 => ?_) (fun c19 => ?_)
    ·
      refine a_iload_n X 3 d_H_move_24 rfl rfl ?_
      refine a_callS X (As := [.int _]) fb_H_isWeight lk_H_82 sm_H_isWeight (c_isW_y hx) rfl rfl (Nat.le_of_ble_eq_true rfl) (by decide) (by decide) (Nat.le_refl _) (Nat.le_refl _) d_H_move_25 (fun v h1 hp => ?_)
      obtain ⟨rfl, rfl⟩ := hp
      refine a_if_neN X 34 (by omega) d_H_move_28 (by decide) (fun c28 => ?_) (fun c28 => ?_)
      ·
        refine a_aload_n X 0 d_H_move_34 rfl rfl ?_
        refine a_callV X (a := 0) (As := []) hq_0 rfl fb_H_forgetWays lk_H_71 im_H_forgetWays se_H_forgetWays (c_fgw) rfl rfl (Nat.le_of_ble_eq_true rfl) (by decide) (by decide) (Nat.le_refl _) (Nat.le_refl _) d_H_move_35 (fun v h1 hp => ?_)
        obtain ⟨rfl, rfl⟩ := hp
        refine a_aload_n X 0 d_H_move_38 rfl rfl ?_
        refine a_get X ff_H_19 d_H_move_39 hq_0 rfl ?_
        refine a_get X ff_H_89 d_H_move_42 hq_4 rfl ?_
        refine a_iload_n X 1 d_H_move_45 rfl rfl ?_
        refine a_aald X d_H_move_46 hq_10 rfl rfl (ab_ix_nI (by omega) (by decide)) (hg_mv (by omega)) ?_
        refine a_iload_n X 2 d_H_move_47 rfl rfl ?_
        refine a_iald X d_H_move_48 (hr_mv (by omega)) rfl (ab_ix_nI (by omega) (by decide)) ?_
        refine a_istore X d_H_move_49 (by decide) ?_
        refine a_aload_n X 0 d_H_move_51 rfl rfl ?_
        refine a_get X ff_H_19 d_H_move_52 hq_0 rfl ?_
        refine a_get X ff_H_89 d_H_move_55 hq_4 rfl ?_
        refine a_iload_n X 1 d_H_move_58 rfl rfl ?_
        refine a_aald X d_H_move_59 hq_10 rfl rfl (ab_ix_nI (by omega) (by decide)) (hg_mv (by omega)) ?_
        refine a_iload_n X 2 d_H_move_60 rfl rfl ?_
        refine a_iload_n X 3 d_H_move_61 rfl rfl ?_
        refine a_iast X d_H_move_62 (hr_mv (by omega)) rfl (ab_ix_nI (by omega) (by decide)) ?_
        refine ab_hp (hw_mv (by omega)) ?_
        refine a_iload X d_H_move_63 rfl ?_
        exact a_iret X d_H_move_65 (Nat.le_refl _) (Nat.le_refl _) ⟨rfl, rfl⟩
      ·
        exfalso
        omega
    ·
      exfalso
      omega
set_option maxHeartbeats 4000000 in
set_option maxRecDepth 20000 in
theorem c_H_move_s {E : ab_E} {l : Launch} {r : hR} {s : hS} {w c : hW} {b : hB} {d : hD} {k : hK} {t : hT} {Z : List ab_C} {a e x : Int32} (ha : a < 0 ∨ nI s.2.2 ≤ a) : ab_Con E l y_H_move b_H_move 5 (some .int) 1 21 [.ref 1, .int a, .int e, .int x] (hc r s w c b d k t ++ Z) 0 0 (fun v h1 => v = some (.int (-1)) ∧ h1 = hc r s w c b d k t ++ Z) := by
  refine ab_con (own := "HiddenRows") (ini := false) (by decide) (fun h => by cases h) rfl (Nat.le_of_ble_eq_true rfl) ?_
  intro G m X
  show ab_R E G m 5 0 0 0 [(0, .ref 1), (1, .int a), (2, .int e), (3, .int x)] [] (hc r s w c b d k t ++ Z)
  refine a_aload_n X 0 d_H_move_0 rfl rfl ?_
  refine a_get X ff_H_19 d_H_move_1 hq_0 rfl ?_
  refine a_iload_n X 1 d_H_move_4 rfl rfl ?_
  refine a_callV X (a := 4) (As := [.int _]) hq_4 rfl fb_St_has lk_H_78 im_St_has se_St_has (c_St_has_n ha) rfl rfl (Nat.le_of_ble_eq_true rfl) (by decide) (by decide) (Nat.le_refl _) (Nat.le_refl _) d_H_move_5 (fun v h1 hp => ?_)
  obtain ⟨rfl, rfl⟩ := hp
  refine a_if_eqN X 22 (by omega) d_H_move_8 (by decide) (fun c8 => ?_) (fun c8 => ?_)
  ·
    refine a_iconst X (v := -1) d_H_move_22 (by decide) ?_
    exact a_iret X d_H_move_23 (Nat.le_refl _) (Nat.le_refl _) ⟨rfl, rfl⟩
  ·
    exfalso
    omega
set_option maxHeartbeats 4000000 in
set_option maxRecDepth 20000 in
theorem c_H_move_t {E : ab_E} {l : Launch} {r : hR} {s : hS} {w c : hW} {b : hB} {d : hD} {k : hK} {t : hT} {Z : List ab_C} {j : Nat} {e x : Int32} (hq : s.2.2 ≤ 4) (hj : j < s.2.2) (he : e < 0 ∨ nI s.2.2 ≤ e) : ab_Con E l y_H_move b_H_move 5 (some .int) 1 21 [.ref 1, .int (nI j), .int e, .int x] (hc r s w c b d k t ++ Z) 0 0 (fun v h1 => v = some (.int (-1)) ∧ h1 = hc r s w c b d k t ++ Z) := by
  refine ab_con (own := "HiddenRows") (ini := false) (by decide) (fun h => by cases h) rfl (Nat.le_of_ble_eq_true rfl) ?_
  intro G m X
  show ab_R E G m 5 0 0 0 [(0, .ref 1), (1, .int (nI j)), (2, .int e), (3, .int x)] [] (hc r s w c b d k t ++ Z)
  refine a_aload_n X 0 d_H_move_0 rfl rfl ?_
  refine a_get X ff_H_19 d_H_move_1 hq_0 rfl ?_
  refine a_iload_n X 1 d_H_move_4 rfl rfl ?_
  refine a_callV X (a := 4) (As := [.int _]) hq_4 rfl fb_St_has lk_H_78 im_St_has se_St_has (c_St_has_y hj hq) rfl rfl (Nat.le_of_ble_eq_true rfl) (by decide) (by decide) (Nat.le_refl _) (Nat.le_refl _) d_H_move_5 (fun v h1 hp => ?_)
  obtain ⟨rfl, rfl⟩ := hp
  refine a_if_eqN X 22 (by omega) d_H_move_8 (by decide) (fun c8 => ?_) (fun c8 => ?_)
  ·
    exfalso
    omega
  ·
    refine a_aload_n X 0 d_H_move_11 rfl rfl ?_
    refine a_get X ff_H_19 d_H_move_12 hq_0 rfl ?_
    refine a_iload_n X 2 d_H_move_15 rfl rfl ?_
    refine a_callV X (a := 4) (As := [.int _]) hq_4 rfl fb_St_has lk_H_78 im_St_has se_St_has (c_St_has_n he) rfl rfl (Nat.le_of_ble_eq_true rfl) (by decide) (by decide) (Nat.le_refl _) (Nat.le_refl _) d_H_move_16 (fun v h1 hp => ?_)
    obtain ⟨rfl, rfl⟩ := hp
    refine a_if_neN X 24 (by omega) d_H_move_19 (by decide) (fun c19 => ?_) (fun c19 => ?_)
    ·
      exfalso
      omega
    ·
      refine a_iconst X (v := -1) d_H_move_22 (by decide) ?_
      exact a_iret X d_H_move_23 (Nat.le_refl _) (Nat.le_refl _) ⟨rfl, rfl⟩
set_option maxHeartbeats 4000000 in
set_option maxRecDepth 20000 in
theorem c_H_move_x {E : ab_E} {l : Launch} {r : hR} {s : hS} {w c : hW} {b : hB} {d : hD} {k : hK} {t : hT} {Z : List ab_C} {j z : Nat} {x : Int32} (hq : s.2.2 ≤ 4) (hj : j < s.2.2) (hz : z < s.2.2) (hx : x < 0 ∨ nI 4 < x) : ab_Con E l y_H_move b_H_move 5 (some .int) 1 21 [.ref 1, .int (nI j), .int (nI z), .int x] (hc r s w c b d k t ++ Z) 0 0 (fun v h1 => v = some (.int (-2)) ∧ h1 = hc r s w c b d k t ++ Z) := by
  refine ab_con (own := "HiddenRows") (ini := false) (by decide) (fun h => by cases h) rfl (Nat.le_of_ble_eq_true rfl) ?_
  intro G m X
  show ab_R E G m 5 0 0 0 [(0, .ref 1), (1, .int (nI j)), (2, .int (nI z)), (3, .int x)] [] (hc r s w c b d k t ++ Z)
  refine a_aload_n X 0 d_H_move_0 rfl rfl ?_
  refine a_get X ff_H_19 d_H_move_1 hq_0 rfl ?_
  refine a_iload_n X 1 d_H_move_4 rfl rfl ?_
  refine a_callV X (a := 4) (As := [.int _]) hq_4 rfl fb_St_has lk_H_78 im_St_has se_St_has (c_St_has_y hj hq) rfl rfl (Nat.le_of_ble_eq_true rfl) (by decide) (by decide) (Nat.le_refl _) (Nat.le_refl _) d_H_move_5 (fun v h1 hp => ?_)
  obtain ⟨rfl, rfl⟩ := hp
  refine a_if_eqN X 22 (by omega) d_H_move_8 (by decide) (fun c8 => ?_) (fun c8 => ?_)
  ·
    exfalso
    omega
  ·
    refine a_aload_n X 0 d_H_move_11 rfl rfl ?_
    refine a_get X ff_H_19 d_H_move_12 hq_0 rfl ?_
    refine a_iload_n X 2 d_H_move_15 rfl rfl ?_
    refine a_callV X (a := 4) (As := [.int _]) hq_4 rfl fb_St_has lk_H_78 im_St_has se_St_has (c_St_has_y hz hq) rfl rfl (Nat.le_of_ble_eq_true rfl) (by decide) (by decide) (Nat.le_refl _) (Nat.le_refl _) d_H_move_16 (fun v h1 hp => ?_)
    obtain ⟨rfl, rfl⟩ := hp
    refine a_if_neN X 24 (by omega) d_H_move_19 (by decide) (fun c19 => ?_) (fun c19 => ?_)
    ·
      refine a_iload_n X 3 d_H_move_24 rfl rfl ?_
      refine a_callS X (As := [.int _]) fb_H_isWeight lk_H_82 sm_H_isWeight (c_isW_n hx) rfl rfl (Nat.le_of_ble_eq_true rfl) (by decide) (by decide) (Nat.le_refl _) (Nat.le_refl _) d_H_move_25 (fun v h1 hp => ?_)
      obtain ⟨rfl, rfl⟩ := hp
      refine a_if_neN X 34 (by omega) d_H_move_28 (by decide) (fun c28 => ?_) (fun c28 => ?_)
      ·
        exfalso
        omega
      ·
        refine a_bipush X (v := -2) d_H_move_31 (by decide) ?_
        exact a_iret X d_H_move_33 (Nat.le_refl _) (Nat.le_refl _) ⟨rfl, rfl⟩
    ·
      exfalso
      omega
set_option maxHeartbeats 4000000 in
set_option maxRecDepth 20000 in
theorem c_H_kind_ok {E : ab_E} {l : Launch} {r : hR} {s : hS} {w c : hW} {b : hB} {d : hD} {k : hK} {t : hT} {Z : List ab_C} (hq : k.2.2 < 4) : ab_Con E l y_H_kind b_H_kind 1 (some .int) 1 20 [.ref 1] (hc r s w c b d k t ++ Z) 0 0 (fun v h1 => v = some (.int (nI k.2.2)) ∧ h1 = hc r s w c b d (k.1, k.2.1, k.2.2 + 1) (t.1, t.2.1, t.2.2.1, t.2.2.2.1, t.2.2.2.2.1, t.2.2.2.2.2.1, t.2.2.2.2.2.2.1, 0) ++ Z) := by
  refine ab_con (own := "HiddenRows") (ini := false) (by decide) (fun h => by cases h) rfl (Nat.le_of_ble_eq_true rfl) ?_
  intro G m X
  show ab_R E G m 1 0 0 0 [(0, .ref 1)] [] (hc r s w c b d k t ++ Z)
  refine a_aload_n X 0 d_H_kind_0 rfl rfl ?_
  refine a_get X ff_H_54 d_H_kind_1 hq_0 rfl ?_
  refine a_get X ff_H_92 d_H_kind_4 hq_169 rfl ?_
  refine a_iconst X (v := nI 4) d_H_kind_7 (by decide) ?_
  refine a_icmp_ltN X 14 (by omega) (by omega) d_H_kind_8 (by decide) (fun c8 => ?_) (fun c8 => ?_)
  ·
    refine a_aload_n X 0 d_H_kind_14 rfl rfl ?_
    refine a_callV X (a := 0) (As := []) hq_0 rfl fb_H_forgetTrees lk_H_93 im_H_forgetTrees se_H_forgetTrees (c_fgt) rfl rfl (Nat.le_of_ble_eq_true rfl) (by decide) (by decide) (Nat.le_refl _) (Nat.le_refl _) d_H_kind_15 (fun v h1 hp => ?_)
    obtain ⟨rfl, rfl⟩ := hp
    refine a_aload_n X 0 d_H_kind_18 rfl rfl ?_
    refine a_get X ff_H_54 d_H_kind_19 hq_0 rfl ?_
    refine a_dup X d_H_kind_22 rfl ?_
    refine a_get X ff_H_92 d_H_kind_23 hq_169 rfl ?_
    refine a_iconst X (v := nI 1) d_H_kind_26 (by decide) ?_
    refine a_iadd X d_H_kind_27 ?_
    refine ab_topi (nI_add _ _) ?_
    refine a_put X ff_H_92 d_H_kind_28 hq_169 (Nat.le_of_ble_eq_true rfl) rfl rfl ?_
    refine ab_hp hs_kc ?_
    refine a_aload_n X 0 d_H_kind_31 rfl rfl ?_
    refine a_get X ff_H_54 d_H_kind_32 hq_0 rfl ?_
    refine a_get X ff_H_92 d_H_kind_35 hq_169 rfl ?_
    refine a_iconst X (v := nI 1) d_H_kind_38 (by decide) ?_
    refine a_isub X d_H_kind_39 ?_
    refine ab_topi (pk_sub (a := k.2.2 + 1) (b := 1) (by omega)) ?_
    exact a_iret X d_H_kind_40 (Nat.le_refl _) (Nat.le_refl _) ⟨by rw [Nat.add_sub_cancel], rfl⟩
  ·
    exfalso
    omega
set_option maxHeartbeats 4000000 in
set_option maxRecDepth 20000 in
theorem c_H_kind_no {E : ab_E} {l : Launch} {r : hR} {s : hS} {w c : hW} {b : hB} {d : hD} {k : hK} {t : hT} {Z : List ab_C} (hq : k.2.2 = 4) : ab_Con E l y_H_kind b_H_kind 1 (some .int) 1 20 [.ref 1] (hc r s w c b d k t ++ Z) 0 0 (fun v h1 => v = some (.int (-4)) ∧ h1 = hc r s w c b d k t ++ Z) := by
  refine ab_con (own := "HiddenRows") (ini := false) (by decide) (fun h => by cases h) rfl (Nat.le_of_ble_eq_true rfl) ?_
  intro G m X
  show ab_R E G m 1 0 0 0 [(0, .ref 1)] [] (hc r s w c b d k t ++ Z)
  refine a_aload_n X 0 d_H_kind_0 rfl rfl ?_
  refine a_get X ff_H_54 d_H_kind_1 hq_0 rfl ?_
  refine a_get X ff_H_92 d_H_kind_4 hq_169 rfl ?_
  refine a_iconst X (v := nI 4) d_H_kind_7 (by decide) ?_
  refine a_icmp_ltN X 14 (by omega) (by omega) d_H_kind_8 (by decide) (fun c8 => ?_) (fun c8 => ?_)
  ·
    exfalso
    omega
  ·
    refine a_bipush X (v := -4) d_H_kind_11 (by decide) ?_
    exact a_iret X d_H_kind_13 (Nat.le_refl _) (Nat.le_refl _) ⟨rfl, rfl⟩
set_option maxHeartbeats 4000000 in
set_option maxRecDepth 20000 in
theorem c_H_rule_ok {E : ab_E} {l : Launch} {r : hR} {s : hS} {w c : hW} {b : hB} {d : hD} {k : hK} {t : hT} {Z : List ab_C} {a e f x : Nat} (hq : k.2.2 ≤ 4) (ha : a < k.2.2) (hb : e < k.2.2) (hcc : f < k.2.2) (hx : x ≤ 4) : ab_Con E l y_H_rule b_H_rule 7 (some .int) 1 21 [.ref 1, .int (nI a), .int (nI e), .int (nI f), .int (nI x)] (hc r s w c b d k t ++ Z) 0 0 (fun v h1 => v = some (.int (nI (k.1 a (e * 4 + f)))) ∧ h1 = hc r s w c b d (up2 k.1 a (e * 4 + f) x, k.2.1, k.2.2) (t.1, t.2.1, t.2.2.1, t.2.2.2.1, t.2.2.2.2.1, t.2.2.2.2.2.1, t.2.2.2.2.2.2.1, 0) ++ Z) := by
  refine ab_con (own := "HiddenRows") (ini := false) (by decide) (fun h => by cases h) rfl (Nat.le_of_ble_eq_true rfl) ?_
  intro G m X
  show ab_R E G m 7 0 0 0 [(0, .ref 1), (1, .int (nI a)), (2, .int (nI e)), (3, .int (nI f)), (4, .int (nI x))] [] (hc r s w c b d k t ++ Z)
  refine a_aload_n X 0 d_H_rule_0 rfl rfl ?_
  refine a_get X ff_H_54 d_H_rule_1 hq_0 rfl ?_
  refine a_iload_n X 1 d_H_rule_4 rfl rfl ?_
  refine a_callV X (a := 169) (As := [.int _]) hq_169 rfl fb_Ki_has lk_H_96 im_Ki_has se_Ki_has (c_Ki_has_y ha hq) rfl rfl (Nat.le_of_ble_eq_true rfl) (by decide) (by decide) (Nat.le_refl _) (Nat.le_refl _) d_H_rule_5 (fun v h1 hp => ?_)
  obtain ⟨rfl, rfl⟩ := hp
  refine a_if_eqN X 33 (by omega) d_H_rule_8 (by decide) (fun c8 => ?_) (fun c8 => ?_)
  ·
    exfalso
    omega
  ·
    refine a_aload_n X 0 d_H_rule_11 rfl rfl ?_
    refine a_get X ff_H_54 d_H_rule_12 hq_0 rfl ?_
    refine a_iload_n X 2 d_H_rule_15 rfl rfl ?_
    refine a_callV X (a := 169) (As := [.int _]) hq_169 rfl fb_Ki_has lk_H_96 im_Ki_has se_Ki_has (c_Ki_has_y hb hq) rfl rfl (Nat.le_of_ble_eq_true rfl) (by decide) (by decide) (Nat.le_refl _) (Nat.le_refl _) d_H_rule_16 (fun v h1 hp => ?_)
    obtain ⟨rfl, rfl⟩ := hp
    refine a_if_eqN X 33 (by omega) d_H_rule_19 (by decide) (fun c19 => ?_) (fun c19 => ?_)
    ·
      exfalso
      omega
    ·
      refine a_aload_n X 0 d_H_rule_22 rfl rfl ?_
      refine a_get X ff_H_54 d_H_rule_23 hq_0 rfl ?_
      refine a_iload_n X 3 d_H_rule_26 rfl rfl ?_
      refine a_callV X (a := 169) (As := [.int _]) hq_169 rfl fb_Ki_has lk_H_96 im_Ki_has se_Ki_has (c_Ki_has_y hcc hq) rfl rfl (Nat.le_of_ble_eq_true rfl) (by decide) (by decide) (Nat.le_refl _) (Nat.le_refl _) d_H_rule_27 (fun v h1 hp => ?_)
      obtain ⟨rfl, rfl⟩ := hp
      refine a_if_neN X 35 (by omega) d_H_rule_30 (by decide) (fun c30 => ?_) (fun c30 => ?_)
      ·
        refine a_iload X d_H_rule_35 rfl ?_
        refine a_callS X (As := [.int _]) fb_H_isWeight lk_H_82 sm_H_isWeight (c_isW_y hx) rfl rfl (Nat.le_of_ble_eq_true rfl) (by decide) (by decide) (Nat.le_refl _) (Nat.le_refl _) d_H_rule_37 (fun v h1 hp => ?_)
        obtain ⟨rfl, rfl⟩ := hp
        refine a_if_neN X 46 (by omega) d_H_rule_40 (by decide) (fun c40 => ?_) (fun c40 => ?_)
        ·
          refine a_aload_n X 0 d_H_rule_46 rfl rfl ?_
          refine a_callV X (a := 0) (As := []) hq_0 rfl fb_H_forgetTrees lk_H_93 im_H_forgetTrees se_H_forgetTrees (c_fgt) rfl rfl (Nat.le_of_ble_eq_true rfl) (by decide) (by decide) (Nat.le_refl _) (Nat.le_refl _) d_H_rule_47 (fun v h1 hp => ?_)
          obtain ⟨rfl, rfl⟩ := hp
          refine a_iload_n X 2 d_H_rule_50 rfl rfl ?_
          refine a_iload_n X 3 d_H_rule_51 rfl rfl ?_
          refine a_callS X (As := [.int (nI _), .int (nI _)]) fb_Ki_parts lk_H_97 sm_Ki_parts (c_Ki_parts) rfl rfl (Nat.le_of_ble_eq_true rfl) (by decide) (by decide) (Nat.le_refl _) (Nat.le_refl _) d_H_rule_52 (fun v h1 hp => ?_)
          obtain ⟨rfl, rfl⟩ := hp
          refine a_istore X d_H_rule_55 (by decide) ?_
          refine a_aload_n X 0 d_H_rule_57 rfl rfl ?_
          refine a_get X ff_H_54 d_H_rule_58 hq_0 rfl ?_
          refine a_get X ff_H_101 d_H_rule_61 hq_169 rfl ?_
          refine a_iload_n X 1 d_H_rule_64 rfl rfl ?_
          refine a_aald X d_H_rule_65 hq_170 rfl rfl (ab_ix_nI (by omega) (by decide)) (hg_ru (by omega)) ?_
          refine a_iload X d_H_rule_66 rfl ?_
          refine a_iald X d_H_rule_68 (hr_ru (by omega)) rfl (ab_ix_nI (by omega) (by decide)) ?_
          refine a_istore X d_H_rule_69 (by decide) ?_
          refine a_aload_n X 0 d_H_rule_71 rfl rfl ?_
          refine a_get X ff_H_54 d_H_rule_72 hq_0 rfl ?_
          refine a_get X ff_H_101 d_H_rule_75 hq_169 rfl ?_
          refine a_iload_n X 1 d_H_rule_78 rfl rfl ?_
          refine a_aald X d_H_rule_79 hq_170 rfl rfl (ab_ix_nI (by omega) (by decide)) (hg_ru (by omega)) ?_
          refine a_iload X d_H_rule_80 rfl ?_
          refine a_iload X d_H_rule_82 rfl ?_
          refine a_iast X d_H_rule_84 (hr_ru (by omega)) rfl (ab_ix_nI (by omega) (by decide)) ?_
          refine ab_hp (hw_ru (by omega)) ?_
          refine a_iload X d_H_rule_85 rfl ?_
          exact a_iret X d_H_rule_87 (Nat.le_refl _) (Nat.le_refl _) ⟨rfl, rfl⟩
        ·
          exfalso
          omega
      ·
        exfalso
        omega
set_option maxHeartbeats 4000000 in
set_option maxRecDepth 20000 in
theorem c_H_rule_a {E : ab_E} {l : Launch} {r : hR} {s : hS} {w c : hW} {b : hB} {d : hD} {k : hK} {t : hT} {Z : List ab_C} {y1 y2 y3 y4 : Int32} (ha : y1 < 0 ∨ nI k.2.2 ≤ y1) : ab_Con E l y_H_rule b_H_rule 7 (some .int) 1 21 [.ref 1, .int y1, .int y2, .int y3, .int y4] (hc r s w c b d k t ++ Z) 0 0 (fun v h1 => v = some (.int (-1)) ∧ h1 = hc r s w c b d k t ++ Z) := by
  refine ab_con (own := "HiddenRows") (ini := false) (by decide) (fun h => by cases h) rfl (Nat.le_of_ble_eq_true rfl) ?_
  intro G m X
  show ab_R E G m 7 0 0 0 [(0, .ref 1), (1, .int y1), (2, .int y2), (3, .int y3), (4, .int y4)] [] (hc r s w c b d k t ++ Z)
  refine a_aload_n X 0 d_H_rule_0 rfl rfl ?_
  refine a_get X ff_H_54 d_H_rule_1 hq_0 rfl ?_
  refine a_iload_n X 1 d_H_rule_4 rfl rfl ?_
  refine a_callV X (a := 169) (As := [.int _]) hq_169 rfl fb_Ki_has lk_H_96 im_Ki_has se_Ki_has (c_Ki_has_n ha) rfl rfl (Nat.le_of_ble_eq_true rfl) (by decide) (by decide) (Nat.le_refl _) (Nat.le_refl _) d_H_rule_5 (fun v h1 hp => ?_)
  obtain ⟨rfl, rfl⟩ := hp
  refine a_if_eqN X 33 (by omega) d_H_rule_8 (by decide) (fun c8 => ?_) (fun c8 => ?_)
  ·
    refine a_iconst X (v := -1) d_H_rule_33 (by decide) ?_
    exact a_iret X d_H_rule_34 (Nat.le_refl _) (Nat.le_refl _) ⟨rfl, rfl⟩
  ·
    exfalso
    omega
set_option maxHeartbeats 4000000 in
set_option maxRecDepth 20000 in
theorem c_H_rule_b {E : ab_E} {l : Launch} {r : hR} {s : hS} {w c : hW} {b : hB} {d : hD} {k : hK} {t : hT} {Z : List ab_C} {a : Nat} {y2 y3 y4 : Int32} (hq : k.2.2 ≤ 4) (ha : a < k.2.2) (hb : y2 < 0 ∨ nI k.2.2 ≤ y2) : ab_Con E l y_H_rule b_H_rule 7 (some .int) 1 21 [.ref 1, .int (nI a), .int y2, .int y3, .int y4] (hc r s w c b d k t ++ Z) 0 0 (fun v h1 => v = some (.int (-1)) ∧ h1 = hc r s w c b d k t ++ Z) := by
  refine ab_con (own := "HiddenRows") (ini := false) (by decide) (fun h => by cases h) rfl (Nat.le_of_ble_eq_true rfl) ?_
  intro G m X
  show ab_R E G m 7 0 0 0 [(0, .ref 1), (1, .int (nI a)), (2, .int y2), (3, .int y3), (4, .int y4)] [] (hc r s w c b d k t ++ Z)
  refine a_aload_n X 0 d_H_rule_0 rfl rfl ?_
  refine a_get X ff_H_54 d_H_rule_1 hq_0 rfl ?_
  refine a_iload_n X 1 d_H_rule_4 rfl rfl ?_
  refine a_callV X (a := 169) (As := [.int _]) hq_169 rfl fb_Ki_has lk_H_96 im_Ki_has se_Ki_has (c_Ki_has_y ha hq) rfl rfl (Nat.le_of_ble_eq_true rfl) (by decide) (by decide) (Nat.le_refl _) (Nat.le_refl _) d_H_rule_5 (fun v h1 hp => ?_)
  obtain ⟨rfl, rfl⟩ := hp
  refine a_if_eqN X 33 (by omega) d_H_rule_8 (by decide) (fun c8 => ?_) (fun c8 => ?_)
  ·
    exfalso
    omega
  ·
    refine a_aload_n X 0 d_H_rule_11 rfl rfl ?_
    refine a_get X ff_H_54 d_H_rule_12 hq_0 rfl ?_
    refine a_iload_n X 2 d_H_rule_15 rfl rfl ?_
    refine a_callV X (a := 169) (As := [.int _]) hq_169 rfl fb_Ki_has lk_H_96 im_Ki_has se_Ki_has (c_Ki_has_n hb) rfl rfl (Nat.le_of_ble_eq_true rfl) (by decide) (by decide) (Nat.le_refl _) (Nat.le_refl _) d_H_rule_16 (fun v h1 hp => ?_)
    obtain ⟨rfl, rfl⟩ := hp
    refine a_if_eqN X 33 (by omega) d_H_rule_19 (by decide) (fun c19 => ?_) (fun c19 => ?_)
    ·
      refine a_iconst X (v := -1) d_H_rule_33 (by decide) ?_
      exact a_iret X d_H_rule_34 (Nat.le_refl _) (Nat.le_refl _) ⟨rfl, rfl⟩
    ·
      exfalso
      omega
set_option maxHeartbeats 4000000 in
set_option maxRecDepth 20000 in
theorem c_H_rule_c {E : ab_E} {l : Launch} {r : hR} {s : hS} {w c : hW} {b : hB} {d : hD} {k : hK} {t : hT} {Z : List ab_C} {a e : Nat} {y3 y4 : Int32} (hq : k.2.2 ≤ 4) (ha : a < k.2.2) (hb : e < k.2.2) (hcc : y3 < 0 ∨ nI k.2.2 ≤ y3) : ab_Con E l y_H_rule b_H_rule 7 (some .int) 1 21 [.ref 1, .int (nI a), .int (nI e), .int y3, .int y4] (hc r s w c b d k t ++ Z) 0 0 (fun v h1 => v = some (.int (-1)) ∧ h1 = hc r s w c b d k t ++ Z) := by
  refine ab_con (own := "HiddenRows") (ini := false) (by decide) (fun h => by cases h) rfl (Nat.le_of_ble_eq_true rfl) ?_
  intro G m X
  show ab_R E G m 7 0 0 0 [(0, .ref 1), (1, .int (nI a)), (2, .int (nI e)), (3, .int y3), (4, .int y4)] [] (hc r s w c b d k t ++ Z)
  refine a_aload_n X 0 d_H_rule_0 rfl rfl ?_
  refine a_get X ff_H_54 d_H_rule_1 hq_0 rfl ?_
  refine a_iload_n X 1 d_H_rule_4 rfl rfl ?_
  refine a_callV X (a := 169) (As := [.int _]) hq_169 rfl fb_Ki_has lk_H_96 im_Ki_has se_Ki_has (c_Ki_has_y ha hq) rfl rfl (Nat.le_of_ble_eq_true rfl) (by decide) (by decide) (Nat.le_refl _) (Nat.le_refl _) d_H_rule_5 (fun v h1 hp => ?_)
  obtain ⟨rfl, rfl⟩ := hp
  refine a_if_eqN X 33 (by omega) d_H_rule_8 (by decide) (fun c8 => ?_) (fun c8 => ?_)
  ·
    exfalso
    omega
  ·
    refine a_aload_n X 0 d_H_rule_11 rfl rfl ?_
    refine a_get X ff_H_54 d_H_rule_12 hq_0 rfl ?_
    refine a_iload_n X 2 d_H_rule_15 rfl rfl ?_
    refine a_callV X (a := 169) (As := [.int _]) hq_169 rfl fb_Ki_has lk_H_96 im_Ki_has se_Ki_has (c_Ki_has_y hb hq) rfl rfl (Nat.le_of_ble_eq_true rfl) (by decide) (by decide) (Nat.le_refl _) (Nat.le_refl _) d_H_rule_16 (fun v h1 hp => ?_)
    obtain ⟨rfl, rfl⟩ := hp
    refine a_if_eqN X 33 (by omega) d_H_rule_19 (by decide) (fun c19 => ?_) (fun c19 => ?_)
    ·
      exfalso
      omega
    ·
      refine a_aload_n X 0 d_H_rule_22 rfl rfl ?_
      refine a_get X ff_H_54 d_H_rule_23 hq_0 rfl ?_
      refine a_iload_n X 3 d_H_rule_26 rfl rfl ?_
      refine a_callV X (a := 169) (As := [.int _]) hq_169 rfl fb_Ki_has lk_H_96 im_Ki_has se_Ki_has (c_Ki_has_n hcc) rfl rfl (Nat.le_of_ble_eq_true rfl) (by decide) (by decide) (Nat.le_refl _) (Nat.le_refl _) d_H_rule_27 (fun v h1 hp => ?_)
      obtain ⟨rfl, rfl⟩ := hp
      refine a_if_neN X 35 (by omega) d_H_rule_30 (by decide) (fun c30 => ?_) (fun c30 => ?_)
      ·
        exfalso
        omega
      ·
        refine a_iconst X (v := -1) d_H_rule_33 (by decide) ?_
        exact a_iret X d_H_rule_34 (Nat.le_refl _) (Nat.le_refl _) ⟨rfl, rfl⟩
set_option maxHeartbeats 4000000 in
set_option maxRecDepth 20000 in
theorem c_H_rule_x {E : ab_E} {l : Launch} {r : hR} {s : hS} {w c : hW} {b : hB} {d : hD} {k : hK} {t : hT} {Z : List ab_C} {a e f : Nat} {x : Int32} (hq : k.2.2 ≤ 4) (ha : a < k.2.2) (hb : e < k.2.2) (hcc : f < k.2.2) (hx : x < 0 ∨ nI 4 < x) : ab_Con E l y_H_rule b_H_rule 7 (some .int) 1 21 [.ref 1, .int (nI a), .int (nI e), .int (nI f), .int x] (hc r s w c b d k t ++ Z) 0 0 (fun v h1 => v = some (.int (-2)) ∧ h1 = hc r s w c b d k t ++ Z) := by
  refine ab_con (own := "HiddenRows") (ini := false) (by decide) (fun h => by cases h) rfl (Nat.le_of_ble_eq_true rfl) ?_
  intro G m X
  show ab_R E G m 7 0 0 0 [(0, .ref 1), (1, .int (nI a)), (2, .int (nI e)), (3, .int (nI f)), (4, .int x)] [] (hc r s w c b d k t ++ Z)
  refine a_aload_n X 0 d_H_rule_0 rfl rfl ?_
  refine a_get X ff_H_54 d_H_rule_1 hq_0 rfl ?_
  refine a_iload_n X 1 d_H_rule_4 rfl rfl ?_
  refine a_callV X (a := 169) (As := [.int _]) hq_169 rfl fb_Ki_has lk_H_96 im_Ki_has se_Ki_has (c_Ki_has_y ha hq) rfl rfl (Nat.le_of_ble_eq_true rfl) (by decide) (by decide) (Nat.le_refl _) (Nat.le_refl _) d_H_rule_5 (fun v h1 hp => ?_)
  obtain ⟨rfl, rfl⟩ := hp
  refine a_if_eqN X 33 (by omega) d_H_rule_8 (by decide) (fun c8 => ?_) (fun c8 => ?_)
  ·
    exfalso
    omega
  ·
    refine a_aload_n X 0 d_H_rule_11 rfl rfl ?_
    refine a_get X ff_H_54 d_H_rule_12 hq_0 rfl ?_
    refine a_iload_n X 2 d_H_rule_15 rfl rfl ?_
    refine a_callV X (a := 169) (As := [.int _]) hq_169 rfl fb_Ki_has lk_H_96 im_Ki_has se_Ki_has (c_Ki_has_y hb hq) rfl rfl (Nat.le_of_ble_eq_true rfl) (by decide) (by decide) (Nat.le_refl _) (Nat.le_refl _) d_H_rule_16 (fun v h1 hp => ?_)
    obtain ⟨rfl, rfl⟩ := hp
    refine a_if_eqN X 33 (by omega) d_H_rule_19 (by decide) (fun c19 => ?_) (fun c19 => ?_)
    ·
      exfalso
      omega
    ·
      refine a_aload_n X 0 d_H_rule_22 rfl rfl ?_
      refine a_get X ff_H_54 d_H_rule_23 hq_0 rfl ?_
      refine a_iload_n X 3 d_H_rule_26 rfl rfl ?_
      refine a_callV X (a := 169) (As := [.int _]) hq_169 rfl fb_Ki_has lk_H_96 im_Ki_has se_Ki_has (c_Ki_has_y hcc hq) rfl rfl (Nat.le_of_ble_eq_true rfl) (by decide) (by decide) (Nat.le_refl _) (Nat.le_refl _) d_H_rule_27 (fun v h1 hp => ?_)
      obtain ⟨rfl, rfl⟩ := hp
      refine a_if_neN X 35 (by omega) d_H_rule_30 (by decide) (fun c30 => ?_) (fun c30 => ?_)
      ·
        refine a_iload X d_H_rule_35 rfl ?_
        refine a_callS X (As := [.int _]) fb_H_isWeight lk_H_82 sm_H_isWeight (c_isW_n hx) rfl rfl (Nat.le_of_ble_eq_true rfl) (by decide) (by decide) (Nat.le_refl _) (Nat.le_refl _) d_H_rule_37 (fun v h1 hp => ?_)
        obtain ⟨rfl, rfl⟩ := hp
        refine a_if_neN X 46 (by omega) d_H_rule_40 (by decide) (fun c40 => ?_) (fun c40 => ?_)
        ·
          exfalso
          omega
        ·
          refine a_bipush X (v := -2) d_H_rule_43 (by decide) ?_
          exact a_iret X d_H_rule_45 (Nat.le_refl _) (Nat.le_refl _) ⟨rfl, rfl⟩
      ·
        exfalso
        omega
set_option maxHeartbeats 4000000 in
set_option maxRecDepth 20000 in
theorem c_H_leaf_ok {E : ab_E} {l : Launch} {r : hR} {s : hS} {w c : hW} {b : hB} {d : hD} {k : hK} {t : hT} {Z : List ab_C} {a z x : Nat} (hq : k.2.2 ≤ 4) (ha : a < k.2.2) (hz : z < 4) (hx : x ≤ 4) : ab_Con E l y_H_leaf b_H_leaf 5 (some .int) 1 21 [.ref 1, .int (nI a), .int (nI z), .int (nI x)] (hc r s w c b d k t ++ Z) 0 0 (fun v h1 => v = some (.int (nI (k.2.1 a z))) ∧ h1 = hc r s w c b d (k.1, up2 k.2.1 a z x, k.2.2) (t.1, t.2.1, t.2.2.1, t.2.2.2.1, t.2.2.2.2.1, t.2.2.2.2.2.1, t.2.2.2.2.2.2.1, 0) ++ Z) := by
  refine ab_con (own := "HiddenRows") (ini := false) (by decide) (fun h => by cases h) rfl (Nat.le_of_ble_eq_true rfl) ?_
  intro G m X
  show ab_R E G m 5 0 0 0 [(0, .ref 1), (1, .int (nI a)), (2, .int (nI z)), (3, .int (nI x))] [] (hc r s w c b d k t ++ Z)
  refine a_aload_n X 0 d_H_leaf_0 rfl rfl ?_
  refine a_get X ff_H_54 d_H_leaf_1 hq_0 rfl ?_
  refine a_iload_n X 1 d_H_leaf_4 rfl rfl ?_
  refine a_callV X (a := 169) (As := [.int _]) hq_169 rfl fb_Ki_has lk_H_96 im_Ki_has se_Ki_has (c_Ki_has_y ha hq) rfl rfl (Nat.le_of_ble_eq_true rfl) (by decide) (by decide) (Nat.le_refl _) (Nat.le_refl _) d_H_leaf_5 (fun v h1 hp => ?_)
  obtain ⟨rfl, rfl⟩ := hp
  refine a_if_eqN X 20 (by omega) d_H_leaf_8 (by decide) (fun c8 => ?_) (fun c8 => ?_)
  ·
    exfalso
    omega
  ·
    refine a_iload_n X 2 d_H_leaf_11 rfl rfl ?_
    refine a_if_ltN X 20 (by omega) d_H_leaf_12 (by decide) ?_
    refine a_iload_n X 2 d_H_leaf_15 rfl rfl ?_
    refine a_iconst X (v := nI 4) d_H_leaf_16 (by decide) ?_
    refine a_icmp_ltN X 22 (by omega) (by omega) d_H_leaf_17 (by decide) (fun c17 => ?_) (fun c17 => ?_)
    ·
      refine a_iload_n X 3 d_H_leaf_22 rfl rfl ?_
      refine a_callS X (As := [.int _]) fb_H_isWeight lk_H_82 sm_H_isWeight (c_isW_y hx) rfl rfl (Nat.le_of_ble_eq_true rfl) (by decide) (by decide) (Nat.le_refl _) (Nat.le_refl _) d_H_leaf_23 (fun v h1 hp => ?_)
      obtain ⟨rfl, rfl⟩ := hp
      refine a_if_neN X 32 (by omega) d_H_leaf_26 (by decide) (fun c26 => ?_) (fun c26 => ?_)
      ·
        refine a_aload_n X 0 d_H_leaf_32 rfl rfl ?_
        refine a_callV X (a := 0) (As := []) hq_0 rfl fb_H_forgetTrees lk_H_93 im_H_forgetTrees se_H_forgetTrees (c_fgt) rfl rfl (Nat.le_of_ble_eq_true rfl) (by decide) (by decide) (Nat.le_refl _) (Nat.le_refl _) d_H_leaf_33 (fun v h1 hp => ?_)
        obtain ⟨rfl, rfl⟩ := hp
        refine a_aload_n X 0 d_H_leaf_36 rfl rfl ?_
        refine a_get X ff_H_54 d_H_leaf_37 hq_0 rfl ?_
        refine a_get X ff_H_104 d_H_leaf_40 hq_169 rfl ?_
        refine a_iload_n X 1 d_H_leaf_43 rfl rfl ?_
        refine a_aald X d_H_leaf_44 hq_175 rfl rfl (ab_ix_nI (by omega) (by decide)) (hg_lf (by omega)) ?_
        refine a_iload_n X 2 d_H_leaf_45 rfl rfl ?_
        refine a_iald X d_H_leaf_46 (hr_lf (by omega)) rfl (ab_ix_nI (by omega) (by decide)) ?_
        refine a_istore X d_H_leaf_47 (by decide) ?_
        refine a_aload_n X 0 d_H_leaf_49 rfl rfl ?_
        refine a_get X ff_H_54 d_H_leaf_50 hq_0 rfl ?_
        refine a_get X ff_H_104 d_H_leaf_53 hq_169 rfl ?_
        refine a_iload_n X 1 d_H_leaf_56 rfl rfl ?_
        refine a_aald X d_H_leaf_57 hq_175 rfl rfl (ab_ix_nI (by omega) (by decide)) (hg_lf (by omega)) ?_
        refine a_iload_n X 2 d_H_leaf_58 rfl rfl ?_
        refine a_iload_n X 3 d_H_leaf_59 rfl rfl ?_
        refine a_iast X d_H_leaf_60 (hr_lf (by omega)) rfl (ab_ix_nI (by omega) (by decide)) ?_
        refine ab_hp (hw_lf (by omega)) ?_
        refine a_iload X d_H_leaf_61 rfl ?_
        exact a_iret X d_H_leaf_63 (Nat.le_refl _) (Nat.le_refl _) ⟨rfl, rfl⟩
      ·
        exfalso
        omega
    ·
      exfalso
      omega
set_option maxHeartbeats 4000000 in
set_option maxRecDepth 20000 in
theorem c_H_leaf_a {E : ab_E} {l : Launch} {r : hR} {s : hS} {w c : hW} {b : hB} {d : hD} {k : hK} {t : hT} {Z : List ab_C} {y1 y2 y3 : Int32} (ha : y1 < 0 ∨ nI k.2.2 ≤ y1) : ab_Con E l y_H_leaf b_H_leaf 5 (some .int) 1 21 [.ref 1, .int y1, .int y2, .int y3] (hc r s w c b d k t ++ Z) 0 0 (fun v h1 => v = some (.int (-1)) ∧ h1 = hc r s w c b d k t ++ Z) := by
  refine ab_con (own := "HiddenRows") (ini := false) (by decide) (fun h => by cases h) rfl (Nat.le_of_ble_eq_true rfl) ?_
  intro G m X
  show ab_R E G m 5 0 0 0 [(0, .ref 1), (1, .int y1), (2, .int y2), (3, .int y3)] [] (hc r s w c b d k t ++ Z)
  refine a_aload_n X 0 d_H_leaf_0 rfl rfl ?_
  refine a_get X ff_H_54 d_H_leaf_1 hq_0 rfl ?_
  refine a_iload_n X 1 d_H_leaf_4 rfl rfl ?_
  refine a_callV X (a := 169) (As := [.int _]) hq_169 rfl fb_Ki_has lk_H_96 im_Ki_has se_Ki_has (c_Ki_has_n ha) rfl rfl (Nat.le_of_ble_eq_true rfl) (by decide) (by decide) (Nat.le_refl _) (Nat.le_refl _) d_H_leaf_5 (fun v h1 hp => ?_)
  obtain ⟨rfl, rfl⟩ := hp
  refine a_if_eqN X 20 (by omega) d_H_leaf_8 (by decide) (fun c8 => ?_) (fun c8 => ?_)
  ·
    refine a_iconst X (v := -1) d_H_leaf_20 (by decide) ?_
    exact a_iret X d_H_leaf_21 (Nat.le_refl _) (Nat.le_refl _) ⟨rfl, rfl⟩
  ·
    exfalso
    omega
set_option maxHeartbeats 4000000 in
set_option maxRecDepth 20000 in
theorem c_H_leaf_s {E : ab_E} {l : Launch} {r : hR} {s : hS} {w c : hW} {b : hB} {d : hD} {k : hK} {t : hT} {Z : List ab_C} {a : Nat} {e y3 : Int32} (hq : k.2.2 ≤ 4) (ha : a < k.2.2) (he : e < 0 ∨ nI 4 ≤ e) : ab_Con E l y_H_leaf b_H_leaf 5 (some .int) 1 21 [.ref 1, .int (nI a), .int e, .int y3] (hc r s w c b d k t ++ Z) 0 0 (fun v h1 => v = some (.int (-1)) ∧ h1 = hc r s w c b d k t ++ Z) := by
  refine ab_con (own := "HiddenRows") (ini := false) (by decide) (fun h => by cases h) rfl (Nat.le_of_ble_eq_true rfl) ?_
  intro G m X
  show ab_R E G m 5 0 0 0 [(0, .ref 1), (1, .int (nI a)), (2, .int e), (3, .int y3)] [] (hc r s w c b d k t ++ Z)
  refine a_aload_n X 0 d_H_leaf_0 rfl rfl ?_
  refine a_get X ff_H_54 d_H_leaf_1 hq_0 rfl ?_
  refine a_iload_n X 1 d_H_leaf_4 rfl rfl ?_
  refine a_callV X (a := 169) (As := [.int _]) hq_169 rfl fb_Ki_has lk_H_96 im_Ki_has se_Ki_has (c_Ki_has_y ha hq) rfl rfl (Nat.le_of_ble_eq_true rfl) (by decide) (by decide) (Nat.le_refl _) (Nat.le_refl _) d_H_leaf_5 (fun v h1 hp => ?_)
  obtain ⟨rfl, rfl⟩ := hp
  refine a_if_eqN X 20 (by omega) d_H_leaf_8 (by decide) (fun c8 => ?_) (fun c8 => ?_)
  ·
    exfalso
    omega
  ·
    refine a_iload_n X 2 d_H_leaf_11 rfl rfl ?_
    refine a_if_lt X 20 d_H_leaf_12 (by decide) (fun c12 => ?_) (fun c12 => ?_)
    ·
      refine a_iconst X (v := -1) d_H_leaf_20 (by decide) ?_
      exact a_iret X d_H_leaf_21 (Nat.le_refl _) (Nat.le_refl _) ⟨rfl, rfl⟩
    ·
      refine a_iload_n X 2 d_H_leaf_15 rfl rfl ?_
      refine a_iconst X (v := nI 4) d_H_leaf_16 (by decide) ?_
      refine a_icmp_lt X 22 d_H_leaf_17 (by decide) (fun c17 => ?_) (fun c17 => ?_)
      ·
        exfalso
        rcases he with q | q
        · exact c12 q
        · exact Int32.not_lt.mpr q c17
      ·
        refine a_iconst X (v := -1) d_H_leaf_20 (by decide) ?_
        exact a_iret X d_H_leaf_21 (Nat.le_refl _) (Nat.le_refl _) ⟨rfl, rfl⟩
set_option maxHeartbeats 4000000 in
set_option maxRecDepth 20000 in
theorem c_H_leaf_x {E : ab_E} {l : Launch} {r : hR} {s : hS} {w c : hW} {b : hB} {d : hD} {k : hK} {t : hT} {Z : List ab_C} {a z : Nat} {x : Int32} (hq : k.2.2 ≤ 4) (ha : a < k.2.2) (hz : z < 4) (hx : x < 0 ∨ nI 4 < x) : ab_Con E l y_H_leaf b_H_leaf 5 (some .int) 1 21 [.ref 1, .int (nI a), .int (nI z), .int x] (hc r s w c b d k t ++ Z) 0 0 (fun v h1 => v = some (.int (-2)) ∧ h1 = hc r s w c b d k t ++ Z) := by
  refine ab_con (own := "HiddenRows") (ini := false) (by decide) (fun h => by cases h) rfl (Nat.le_of_ble_eq_true rfl) ?_
  intro G m X
  show ab_R E G m 5 0 0 0 [(0, .ref 1), (1, .int (nI a)), (2, .int (nI z)), (3, .int x)] [] (hc r s w c b d k t ++ Z)
  refine a_aload_n X 0 d_H_leaf_0 rfl rfl ?_
  refine a_get X ff_H_54 d_H_leaf_1 hq_0 rfl ?_
  refine a_iload_n X 1 d_H_leaf_4 rfl rfl ?_
  refine a_callV X (a := 169) (As := [.int _]) hq_169 rfl fb_Ki_has lk_H_96 im_Ki_has se_Ki_has (c_Ki_has_y ha hq) rfl rfl (Nat.le_of_ble_eq_true rfl) (by decide) (by decide) (Nat.le_refl _) (Nat.le_refl _) d_H_leaf_5 (fun v h1 hp => ?_)
  obtain ⟨rfl, rfl⟩ := hp
  refine a_if_eqN X 20 (by omega) d_H_leaf_8 (by decide) (fun c8 => ?_) (fun c8 => ?_)
  ·
    exfalso
    omega
  ·
    refine a_iload_n X 2 d_H_leaf_11 rfl rfl ?_
    refine a_if_ltN X 20 (by omega) d_H_leaf_12 (by decide) ?_
    refine a_iload_n X 2 d_H_leaf_15 rfl rfl ?_
    refine a_iconst X (v := nI 4) d_H_leaf_16 (by decide) ?_
    refine a_icmp_ltN X 22 (by omega) (by omega) d_H_leaf_17 (by decide) (fun c17 => ?_) (fun c17 => ?_)
    ·
      refine a_iload_n X 3 d_H_leaf_22 rfl rfl ?_
      refine a_callS X (As := [.int _]) fb_H_isWeight lk_H_82 sm_H_isWeight (c_isW_n hx) rfl rfl (Nat.le_of_ble_eq_true rfl) (by decide) (by decide) (Nat.le_refl _) (Nat.le_refl _) d_H_leaf_23 (fun v h1 hp => ?_)
      obtain ⟨rfl, rfl⟩ := hp
      refine a_if_neN X 32 (by omega) d_H_leaf_26 (by decide) (fun c26 => ?_) (fun c26 => ?_)
      ·
        exfalso
        omega
      ·
        refine a_bipush X (v := -2) d_H_leaf_29 (by decide) ?_
        exact a_iret X d_H_leaf_31 (Nat.le_refl _) (Nat.le_refl _) ⟨rfl, rfl⟩
    ·
      exfalso
      omega
set_option maxHeartbeats 4000000 in
set_option maxRecDepth 20000 in
theorem c_H_sign_ok {E : ab_E} {l : Launch} {r : hR} {s : hS} {w c : hW} {b : hB} {d : hD} {k : hK} {t : hT} {Z : List ab_C} {x : Int32} (hx1 : ¬ x < -1) (hx2 : x < nI 4) (hn : r.2.2 < 6) : ab_Con E l y_H_sign b_H_sign 2 (some .int) 1 21 [.ref 1, .int x] (hc r s w c b d k t ++ Z) 0 0 (fun v h1 => v = some (.int (nI (r.2.2 + 1))) ∧ h1 = hc (upd r.1 r.2.2 x, upd r.2.1 r.2.2 (-1), r.2.2 + 1) s (w.1, w.2.1, w.2.2.1, w.2.2.2.1, w.2.2.2.2.1, 0) (c.1, c.2.1, c.2.2.1, c.2.2.2.1, c.2.2.2.2.1, 0) (b.1, 0) (d.1, d.2.1, d.2.2.1, d.2.2.2.1, d.2.2.2.2.1, 0) k (t.1, t.2.1, t.2.2.1, t.2.2.2.1, t.2.2.2.2.1, t.2.2.2.2.2.1, t.2.2.2.2.2.2.1, 0) ++ Z) := by
  refine ab_con (own := "HiddenRows") (ini := false) (by decide) (fun h => by cases h) rfl (Nat.le_of_ble_eq_true rfl) ?_
  intro G m X
  show ab_R E G m 2 0 0 0 [(0, .ref 1), (1, .int x)] [] (hc r s w c b d k t ++ Z)
  refine a_iload_n X 1 d_H_sign_0 rfl rfl ?_
  refine a_iconst X (v := -1) d_H_sign_1 (by decide) ?_
  refine a_icmp_lt X 10 d_H_sign_2 (by decide) (fun c2 => ?_) (fun c2 => ?_)
  ·
    exfalso
    exact hx1 c2
  ·
    refine a_iload_n X 1 d_H_sign_5 rfl rfl ?_
    refine a_iconst X (v := nI 4) d_H_sign_6 (by decide) ?_
    refine a_icmp_lt X 13 d_H_sign_7 (by decide) (fun c7 => ?_) (fun c7 => ?_)
    ·
      refine a_aload_n X 0 d_H_sign_13 rfl rfl ?_
      refine a_get X ff_H_12 d_H_sign_14 hq_0 rfl ?_
      refine a_get X ff_H_107 d_H_sign_17 hq_1 rfl ?_
      refine a_bipush X (v := nI 6) d_H_sign_20 (by decide) ?_
      refine a_icmp_ltN X 28 (by omega) (by omega) d_H_sign_22 (by decide) (fun c22 => ?_) (fun c22 => ?_)
      ·
        refine a_aload_n X 0 d_H_sign_28 rfl rfl ?_
        refine a_callV X (a := 0) (As := []) hq_0 rfl fb_H_forgetWays lk_H_71 im_H_forgetWays se_H_forgetWays (c_fgw) rfl rfl (Nat.le_of_ble_eq_true rfl) (by decide) (by decide) (Nat.le_refl _) (Nat.le_refl _) d_H_sign_29 (fun v h1 hp => ?_)
        obtain ⟨rfl, rfl⟩ := hp
        refine a_aload_n X 0 d_H_sign_32 rfl rfl ?_
        refine a_callV X (a := 0) (As := []) hq_0 rfl fb_H_forgetTrees lk_H_93 im_H_forgetTrees se_H_forgetTrees (c_fgt) rfl rfl (Nat.le_of_ble_eq_true rfl) (by decide) (by decide) (Nat.le_refl _) (Nat.le_refl _) d_H_sign_33 (fun v h1 hp => ?_)
        obtain ⟨rfl, rfl⟩ := hp
        refine a_aload_n X 0 d_H_sign_36 rfl rfl ?_
        refine a_get X ff_H_12 d_H_sign_37 hq_0 rfl ?_
        refine a_iload_n X 1 d_H_sign_40 rfl rfl ?_
        refine a_callV X (a := 1) (As := [.int _]) hq_1 rfl fb_Ro_append lk_H_110 im_Ro_append se_Ro_append (c_app hn) rfl rfl (Nat.le_of_ble_eq_true rfl) (by decide) (by decide) (Nat.le_refl _) (Nat.le_refl _) d_H_sign_41 (fun v h1 hp => ?_)
        obtain ⟨rfl, rfl⟩ := hp
        refine a_aload_n X 0 d_H_sign_44 rfl rfl ?_
        refine a_get X ff_H_12 d_H_sign_45 hq_0 rfl ?_
        refine a_get X ff_H_107 d_H_sign_48 hq_1 rfl ?_
        exact a_iret X d_H_sign_51 (Nat.le_refl _) (Nat.le_refl _) ⟨rfl, rfl⟩
      ·
        exfalso
        omega
    ·
      exfalso
      exact c7 hx2
set_option maxHeartbeats 4000000 in
set_option maxRecDepth 20000 in
theorem c_H_sign_b {E : ab_E} {l : Launch} {r : hR} {s : hS} {w c : hW} {b : hB} {d : hD} {k : hK} {t : hT} {Z : List ab_C} {x : Int32} (hx : x < -1 ∨ nI 4 ≤ x) : ab_Con E l y_H_sign b_H_sign 2 (some .int) 1 21 [.ref 1, .int x] (hc r s w c b d k t ++ Z) 0 0 (fun v h1 => v = some (.int (-2)) ∧ h1 = hc r s w c b d k t ++ Z) := by
  refine ab_con (own := "HiddenRows") (ini := false) (by decide) (fun h => by cases h) rfl (Nat.le_of_ble_eq_true rfl) ?_
  intro G m X
  show ab_R E G m 2 0 0 0 [(0, .ref 1), (1, .int x)] [] (hc r s w c b d k t ++ Z)
  refine a_iload_n X 1 d_H_sign_0 rfl rfl ?_
  refine a_iconst X (v := -1) d_H_sign_1 (by decide) ?_
  refine a_icmp_lt X 10 d_H_sign_2 (by decide) (fun c2 => ?_) (fun c2 => ?_)
  ·
    refine a_bipush X (v := -2) d_H_sign_10 (by decide) ?_
    exact a_iret X d_H_sign_12 (Nat.le_refl _) (Nat.le_refl _) ⟨rfl, rfl⟩
  ·
    refine a_iload_n X 1 d_H_sign_5 rfl rfl ?_
    refine a_iconst X (v := nI 4) d_H_sign_6 (by decide) ?_
    refine a_icmp_lt X 13 d_H_sign_7 (by decide) (fun c7 => ?_) (fun c7 => ?_)
    ·
      exfalso
      rcases hx with q | q
      · exact c2 q
      · exact Int32.not_lt.mpr q c7
    ·
      refine a_bipush X (v := -2) d_H_sign_10 (by decide) ?_
      exact a_iret X d_H_sign_12 (Nat.le_refl _) (Nat.le_refl _) ⟨rfl, rfl⟩
set_option maxHeartbeats 4000000 in
set_option maxRecDepth 20000 in
theorem c_H_sign_f {E : ab_E} {l : Launch} {r : hR} {s : hS} {w c : hW} {b : hB} {d : hD} {k : hK} {t : hT} {Z : List ab_C} {x : Int32} (hx1 : ¬ x < -1) (hx2 : x < nI 4) (hn : r.2.2 = 6) : ab_Con E l y_H_sign b_H_sign 2 (some .int) 1 21 [.ref 1, .int x] (hc r s w c b d k t ++ Z) 0 0 (fun v h1 => v = some (.int (-4)) ∧ h1 = hc r s w c b d k t ++ Z) := by
  refine ab_con (own := "HiddenRows") (ini := false) (by decide) (fun h => by cases h) rfl (Nat.le_of_ble_eq_true rfl) ?_
  intro G m X
  show ab_R E G m 2 0 0 0 [(0, .ref 1), (1, .int x)] [] (hc r s w c b d k t ++ Z)
  refine a_iload_n X 1 d_H_sign_0 rfl rfl ?_
  refine a_iconst X (v := -1) d_H_sign_1 (by decide) ?_
  refine a_icmp_lt X 10 d_H_sign_2 (by decide) (fun c2 => ?_) (fun c2 => ?_)
  ·
    exfalso
    exact hx1 c2
  ·
    refine a_iload_n X 1 d_H_sign_5 rfl rfl ?_
    refine a_iconst X (v := nI 4) d_H_sign_6 (by decide) ?_
    refine a_icmp_lt X 13 d_H_sign_7 (by decide) (fun c7 => ?_) (fun c7 => ?_)
    ·
      refine a_aload_n X 0 d_H_sign_13 rfl rfl ?_
      refine a_get X ff_H_12 d_H_sign_14 hq_0 rfl ?_
      refine a_get X ff_H_107 d_H_sign_17 hq_1 rfl ?_
      refine a_bipush X (v := nI 6) d_H_sign_20 (by decide) ?_
      refine a_icmp_ltN X 28 (by omega) (by omega) d_H_sign_22 (by decide) (fun c22 => ?_) (fun c22 => ?_)
      ·
        exfalso
        omega
      ·
        refine a_bipush X (v := -4) d_H_sign_25 (by decide) ?_
        exact a_iret X d_H_sign_27 (Nat.le_refl _) (Nat.le_refl _) ⟨rfl, rfl⟩
    ·
      exfalso
      exact c7 hx2
set_option maxHeartbeats 4000000 in
set_option maxRecDepth 20000 in
theorem c_H_clear {E : ab_E} {l : Launch} {r : hR} {s : hS} {w c : hW} {b : hB} {d : hD} {k : hK} {t : hT} {Z : List ab_C}  : ab_Con E l y_H_clear b_H_clear 2 (some .int) 1 20 [.ref 1] (hc r s w c b d k t ++ Z) 0 0 (fun v h1 => v = some (.int (nI r.2.2)) ∧ h1 = hc (r.1, r.2.1, 0) s (w.1, w.2.1, w.2.2.1, w.2.2.2.1, w.2.2.2.2.1, 0) (c.1, c.2.1, c.2.2.1, c.2.2.2.1, c.2.2.2.2.1, 0) (b.1, 0) (d.1, d.2.1, d.2.2.1, d.2.2.2.1, d.2.2.2.2.1, 0) k (t.1, t.2.1, t.2.2.1, t.2.2.2.1, t.2.2.2.2.1, t.2.2.2.2.2.1, t.2.2.2.2.2.2.1, 0) ++ Z) := by
  refine ab_con (own := "HiddenRows") (ini := false) (by decide) (fun h => by cases h) rfl (Nat.le_of_ble_eq_true rfl) ?_
  intro G m X
  show ab_R E G m 2 0 0 0 [(0, .ref 1)] [] (hc r s w c b d k t ++ Z)
  refine a_aload_n X 0 d_H_clear_0 rfl rfl ?_
  refine a_callV X (a := 0) (As := []) hq_0 rfl fb_H_forgetWays lk_H_71 im_H_forgetWays se_H_forgetWays (c_fgw) rfl rfl (Nat.le_of_ble_eq_true rfl) (by decide) (by decide) (Nat.le_refl _) (Nat.le_refl _) d_H_clear_1 (fun v h1 hp => ?_)
  obtain ⟨rfl, rfl⟩ := hp
  refine a_aload_n X 0 d_H_clear_4 rfl rfl ?_
  refine a_callV X (a := 0) (As := []) hq_0 rfl fb_H_forgetTrees lk_H_93 im_H_forgetTrees se_H_forgetTrees (c_fgt) rfl rfl (Nat.le_of_ble_eq_true rfl) (by decide) (by decide) (Nat.le_refl _) (Nat.le_refl _) d_H_clear_5 (fun v h1 hp => ?_)
  obtain ⟨rfl, rfl⟩ := hp
  refine a_aload_n X 0 d_H_clear_8 rfl rfl ?_
  refine a_get X ff_H_12 d_H_clear_9 hq_0 rfl ?_
  refine a_get X ff_H_107 d_H_clear_12 hq_1 rfl ?_
  refine a_istore_n X 1 d_H_clear_15 rfl (by decide) ?_
  refine a_aload_n X 0 d_H_clear_16 rfl rfl ?_
  refine a_get X ff_H_12 d_H_clear_17 hq_0 rfl ?_
  refine a_iconst X (v := nI 0) d_H_clear_20 (by decide) ?_
  refine a_put X ff_H_107 d_H_clear_21 hq_1 (Nat.le_of_ble_eq_true rfl) rfl rfl ?_
  refine ab_hp hs_rl ?_
  refine a_iload_n X 1 d_H_clear_24 rfl rfl ?_
  exact a_iret X d_H_clear_25 (Nat.le_refl _) (Nat.le_refl _) ⟨rfl, rfl⟩
set_option maxHeartbeats 4000000 in
set_option maxRecDepth 20000 in
theorem c_H_hold_n {E : ab_E} {l : Launch} {r : hR} {s : hS} {w c : hW} {b : hB} {d : hD} {k : hK} {t : hT} {Z : List ab_C} {p : Nat} (hn : r.2.2 ≤ 6) (hp : p < r.2.2) : ab_Con E l y_H_hold b_H_hold 4 (some .int) 1 21 [.ref 1, .int (nI p), .int (-1)] (hc r s w c b d k t ++ Z) 0 0 (fun v h1 => v = some (.int (r.2.1 p)) ∧ h1 = hc (r.1, upd r.2.1 p (-1), r.2.2) s (w.1, w.2.1, w.2.2.1, w.2.2.2.1, w.2.2.2.2.1, 0) (c.1, c.2.1, c.2.2.1, c.2.2.2.1, c.2.2.2.2.1, 0) (b.1, 0) (d.1, d.2.1, d.2.2.1, d.2.2.2.1, d.2.2.2.2.1, 0) k t ++ Z) := by
  refine ab_con (own := "HiddenRows") (ini := false) (by decide) (fun h => by cases h) rfl (Nat.le_of_ble_eq_true rfl) ?_
  intro G m X
  show ab_R E G m 4 0 0 0 [(0, .ref 1), (1, .int (nI p)), (2, .int (-1))] [] (hc r s w c b d k t ++ Z)
  refine a_aload_n X 0 d_H_hold_0 rfl rfl ?_
  refine a_get X ff_H_12 d_H_hold_1 hq_0 rfl ?_
  refine a_iload_n X 1 d_H_hold_4 rfl rfl ?_
  refine a_callV X (a := 1) (As := [.int _]) hq_1 rfl fb_Ro_has lk_H_114 im_Ro_has se_Ro_has (c_Ro_has_y hp hn) rfl rfl (Nat.le_of_ble_eq_true rfl) (by decide) (by decide) (Nat.le_refl _) (Nat.le_refl _) d_H_hold_5 (fun v h1 hp => ?_)
  obtain ⟨rfl, rfl⟩ := hp
  refine a_if_eqN X 27 (by omega) d_H_hold_8 (by decide) (fun c8 => ?_) (fun c8 => ?_)
  ·
    exfalso
    omega
  ·
    refine a_iload_n X 2 d_H_hold_11 rfl rfl ?_
    refine a_iconst X (v := -1) d_H_hold_12 (by decide) ?_
    refine a_icmp_eq X 29 d_H_hold_13 (by decide) (fun c13 => ?_) (fun c13 => ?_)
    ·
      refine a_aload_n X 0 d_H_hold_29 rfl rfl ?_
      refine a_callV X (a := 0) (As := []) hq_0 rfl fb_H_forgetWays lk_H_71 im_H_forgetWays se_H_forgetWays (c_fgw) rfl rfl (Nat.le_of_ble_eq_true rfl) (by decide) (by decide) (Nat.le_refl _) (Nat.le_refl _) d_H_hold_30 (fun v h1 hp => ?_)
      obtain ⟨rfl, rfl⟩ := hp
      refine a_aload_n X 0 d_H_hold_33 rfl rfl ?_
      refine a_get X ff_H_12 d_H_hold_34 hq_0 rfl ?_
      refine a_get X ff_H_115 d_H_hold_37 hq_1 rfl ?_
      refine a_iload_n X 1 d_H_hold_40 rfl rfl ?_
      refine a_iald X d_H_hold_41 hq_3 rfl (ab_ix_nI (by omega) (by decide)) ?_
      refine a_istore_n X 3 d_H_hold_42 rfl (by decide) ?_
      refine a_aload_n X 0 d_H_hold_43 rfl rfl ?_
      refine a_get X ff_H_12 d_H_hold_44 hq_0 rfl ?_
      refine a_get X ff_H_115 d_H_hold_47 hq_1 rfl ?_
      refine a_iload_n X 1 d_H_hold_50 rfl rfl ?_
      refine a_iload_n X 2 d_H_hold_51 rfl rfl ?_
      refine a_iast X d_H_hold_52 hq_3 rfl (ab_ix_nI (by omega) (by decide)) ?_
      refine ab_hp hs_rh ?_
      refine a_iload_n X 3 d_H_hold_53 rfl rfl ?_
      exact a_iret X d_H_hold_54 (Nat.le_refl _) (Nat.le_refl _) ⟨rfl, rfl⟩
    ·
      exfalso
      exact c13 rfl
set_option maxHeartbeats 4000000 in
set_option maxRecDepth 20000 in
theorem c_H_hold_s {E : ab_E} {l : Launch} {r : hR} {s : hS} {w c : hW} {b : hB} {d : hD} {k : hK} {t : hT} {Z : List ab_C} {p j : Nat} (hn : r.2.2 ≤ 6) (hp : p < r.2.2) (hq : s.2.2 ≤ 4) (hj : j < s.2.2) : ab_Con E l y_H_hold b_H_hold 4 (some .int) 1 21 [.ref 1, .int (nI p), .int (nI j)] (hc r s w c b d k t ++ Z) 0 0 (fun v h1 => v = some (.int (r.2.1 p)) ∧ h1 = hc (r.1, upd r.2.1 p (nI j), r.2.2) s (w.1, w.2.1, w.2.2.1, w.2.2.2.1, w.2.2.2.2.1, 0) (c.1, c.2.1, c.2.2.1, c.2.2.2.1, c.2.2.2.2.1, 0) (b.1, 0) (d.1, d.2.1, d.2.2.1, d.2.2.2.1, d.2.2.2.2.1, 0) k t ++ Z) := by
  refine ab_con (own := "HiddenRows") (ini := false) (by decide) (fun h => by cases h) rfl (Nat.le_of_ble_eq_true rfl) ?_
  intro G m X
  show ab_R E G m 4 0 0 0 [(0, .ref 1), (1, .int (nI p)), (2, .int (nI j))] [] (hc r s w c b d k t ++ Z)
  refine a_aload_n X 0 d_H_hold_0 rfl rfl ?_
  refine a_get X ff_H_12 d_H_hold_1 hq_0 rfl ?_
  refine a_iload_n X 1 d_H_hold_4 rfl rfl ?_
  refine a_callV X (a := 1) (As := [.int _]) hq_1 rfl fb_Ro_has lk_H_114 im_Ro_has se_Ro_has (c_Ro_has_y hp hn) rfl rfl (Nat.le_of_ble_eq_true rfl) (by decide) (by decide) (Nat.le_refl _) (Nat.le_refl _) d_H_hold_5 (fun v h1 hp => ?_)
  obtain ⟨rfl, rfl⟩ := hp
  refine a_if_eqN X 27 (by omega) d_H_hold_8 (by decide) (fun c8 => ?_) (fun c8 => ?_)
  ·
    exfalso
    omega
  ·
    refine a_iload_n X 2 d_H_hold_11 rfl rfl ?_
    refine a_iconst X (v := -1) d_H_hold_12 (by decide) ?_
    refine a_icmp_eq X 29 d_H_hold_13 (by decide) (fun c13 => ?_) (fun c13 => ?_)
    ·
      exfalso
      exact absurd (c13 ▸ nI_pos (show j < 2 ^ 31 by omega)) (by decide)
    ·
      refine a_aload_n X 0 d_H_hold_16 rfl rfl ?_
      refine a_get X ff_H_19 d_H_hold_17 hq_0 rfl ?_
      refine a_iload_n X 2 d_H_hold_20 rfl rfl ?_
      refine a_callV X (a := 4) (As := [.int _]) hq_4 rfl fb_St_has lk_H_78 im_St_has se_St_has (c_St_has_y hj hq) rfl rfl (Nat.le_of_ble_eq_true rfl) (by decide) (by decide) (Nat.le_refl _) (Nat.le_refl _) d_H_hold_21 (fun v h1 hp => ?_)
      obtain ⟨rfl, rfl⟩ := hp
      refine a_if_neN X 29 (by omega) d_H_hold_24 (by decide) (fun c24 => ?_) (fun c24 => ?_)
      ·
        refine a_aload_n X 0 d_H_hold_29 rfl rfl ?_
        refine a_callV X (a := 0) (As := []) hq_0 rfl fb_H_forgetWays lk_H_71 im_H_forgetWays se_H_forgetWays (c_fgw) rfl rfl (Nat.le_of_ble_eq_true rfl) (by decide) (by decide) (Nat.le_refl _) (Nat.le_refl _) d_H_hold_30 (fun v h1 hp => ?_)
        obtain ⟨rfl, rfl⟩ := hp
        refine a_aload_n X 0 d_H_hold_33 rfl rfl ?_
        refine a_get X ff_H_12 d_H_hold_34 hq_0 rfl ?_
        refine a_get X ff_H_115 d_H_hold_37 hq_1 rfl ?_
        refine a_iload_n X 1 d_H_hold_40 rfl rfl ?_
        refine a_iald X d_H_hold_41 hq_3 rfl (ab_ix_nI (by omega) (by decide)) ?_
        refine a_istore_n X 3 d_H_hold_42 rfl (by decide) ?_
        refine a_aload_n X 0 d_H_hold_43 rfl rfl ?_
        refine a_get X ff_H_12 d_H_hold_44 hq_0 rfl ?_
        refine a_get X ff_H_115 d_H_hold_47 hq_1 rfl ?_
        refine a_iload_n X 1 d_H_hold_50 rfl rfl ?_
        refine a_iload_n X 2 d_H_hold_51 rfl rfl ?_
        refine a_iast X d_H_hold_52 hq_3 rfl (ab_ix_nI (by omega) (by decide)) ?_
        refine ab_hp hs_rh ?_
        refine a_iload_n X 3 d_H_hold_53 rfl rfl ?_
        exact a_iret X d_H_hold_54 (Nat.le_refl _) (Nat.le_refl _) ⟨rfl, rfl⟩
      ·
        exfalso
        omega
set_option maxHeartbeats 4000000 in
set_option maxRecDepth 20000 in
theorem c_H_hold_p {E : ab_E} {l : Launch} {r : hR} {s : hS} {w c : hW} {b : hB} {d : hD} {k : hK} {t : hT} {Z : List ab_C} {a e : Int32} (ha : a < 0 ∨ nI r.2.2 ≤ a) : ab_Con E l y_H_hold b_H_hold 4 (some .int) 1 21 [.ref 1, .int a, .int e] (hc r s w c b d k t ++ Z) 0 0 (fun v h1 => v = some (.int (-1)) ∧ h1 = hc r s w c b d k t ++ Z) := by
  refine ab_con (own := "HiddenRows") (ini := false) (by decide) (fun h => by cases h) rfl (Nat.le_of_ble_eq_true rfl) ?_
  intro G m X
  show ab_R E G m 4 0 0 0 [(0, .ref 1), (1, .int a), (2, .int e)] [] (hc r s w c b d k t ++ Z)
  refine a_aload_n X 0 d_H_hold_0 rfl rfl ?_
  refine a_get X ff_H_12 d_H_hold_1 hq_0 rfl ?_
  refine a_iload_n X 1 d_H_hold_4 rfl rfl ?_
  refine a_callV X (a := 1) (As := [.int _]) hq_1 rfl fb_Ro_has lk_H_114 im_Ro_has se_Ro_has (c_Ro_has_n ha) rfl rfl (Nat.le_of_ble_eq_true rfl) (by decide) (by decide) (Nat.le_refl _) (Nat.le_refl _) d_H_hold_5 (fun v h1 hp => ?_)
  obtain ⟨rfl, rfl⟩ := hp
  refine a_if_eqN X 27 (by omega) d_H_hold_8 (by decide) (fun c8 => ?_) (fun c8 => ?_)
  ·
    refine a_iconst X (v := -1) d_H_hold_27 (by decide) ?_
    exact a_iret X d_H_hold_28 (Nat.le_refl _) (Nat.le_refl _) ⟨rfl, rfl⟩
  ·
    exfalso
    omega
set_option maxHeartbeats 4000000 in
set_option maxRecDepth 20000 in
theorem c_H_hold_x {E : ab_E} {l : Launch} {r : hR} {s : hS} {w c : hW} {b : hB} {d : hD} {k : hK} {t : hT} {Z : List ab_C} {p : Nat} {e : Int32} (hn : r.2.2 ≤ 6) (hp : p < r.2.2) (he1 : e ≠ -1) (he : e < 0 ∨ nI s.2.2 ≤ e) : ab_Con E l y_H_hold b_H_hold 4 (some .int) 1 21 [.ref 1, .int (nI p), .int e] (hc r s w c b d k t ++ Z) 0 0 (fun v h1 => v = some (.int (-1)) ∧ h1 = hc r s w c b d k t ++ Z) := by
  refine ab_con (own := "HiddenRows") (ini := false) (by decide) (fun h => by cases h) rfl (Nat.le_of_ble_eq_true rfl) ?_
  intro G m X
  show ab_R E G m 4 0 0 0 [(0, .ref 1), (1, .int (nI p)), (2, .int e)] [] (hc r s w c b d k t ++ Z)
  refine a_aload_n X 0 d_H_hold_0 rfl rfl ?_
  refine a_get X ff_H_12 d_H_hold_1 hq_0 rfl ?_
  refine a_iload_n X 1 d_H_hold_4 rfl rfl ?_
  refine a_callV X (a := 1) (As := [.int _]) hq_1 rfl fb_Ro_has lk_H_114 im_Ro_has se_Ro_has (c_Ro_has_y hp hn) rfl rfl (Nat.le_of_ble_eq_true rfl) (by decide) (by decide) (Nat.le_refl _) (Nat.le_refl _) d_H_hold_5 (fun v h1 hp => ?_)
  obtain ⟨rfl, rfl⟩ := hp
  refine a_if_eqN X 27 (by omega) d_H_hold_8 (by decide) (fun c8 => ?_) (fun c8 => ?_)
  ·
    exfalso
    omega
  ·
    refine a_iload_n X 2 d_H_hold_11 rfl rfl ?_
    refine a_iconst X (v := -1) d_H_hold_12 (by decide) ?_
    refine a_icmp_eq X 29 d_H_hold_13 (by decide) (fun c13 => ?_) (fun c13 => ?_)
    ·
      exfalso
      exact he1 c13
    ·
      refine a_aload_n X 0 d_H_hold_16 rfl rfl ?_
      refine a_get X ff_H_19 d_H_hold_17 hq_0 rfl ?_
      refine a_iload_n X 2 d_H_hold_20 rfl rfl ?_
      refine a_callV X (a := 4) (As := [.int _]) hq_4 rfl fb_St_has lk_H_78 im_St_has se_St_has (c_St_has_n he) rfl rfl (Nat.le_of_ble_eq_true rfl) (by decide) (by decide) (Nat.le_refl _) (Nat.le_refl _) d_H_hold_21 (fun v h1 hp => ?_)
      obtain ⟨rfl, rfl⟩ := hp
      refine a_if_neN X 29 (by omega) d_H_hold_24 (by decide) (fun c24 => ?_) (fun c24 => ?_)
      ·
        exfalso
        omega
      ·
        refine a_iconst X (v := -1) d_H_hold_27 (by decide) ?_
        exact a_iret X d_H_hold_28 (Nat.le_refl _) (Nat.le_refl _) ⟨rfl, rfl⟩
set_option maxHeartbeats 4000000 in
set_option maxRecDepth 20000 in
theorem c_H_total {E : ab_E} {l : Launch} {r : hR} {s : hS} {w c : hW} {b : hB} {d : hD} {k : hK} {t : hT} {Z : List ab_C} (hr : okR r) (hs : okS s) (hk : w.2.2.2.2.2 = 0 ∨ w.2.2.2.2.2 = 1 ∧ okW id r s w) : ab_Con E l y_H_total b_H_total 1 (some .long) 6 138 [.ref 1] (hc r s w c b d k t ++ Z) 0 0 (fun v h1 => ∃ w1 : hW, okW id r s w1 ∧ w1.2.2.2.2.2 = 1 ∧ (w.2.2.2.2.2 = 1 → w1 = w) ∧ v = some (.long (lN (if r.2.2 = 0 then 0 else sumR (fun y => w1.2.2.2.2.1 0 y * w1.2.1 0 y) 0 s.2.2))) ∧ h1 = hc r s w1 c b d k t ++ Z) := by
  refine ab_con (own := "HiddenRows") (ini := false) (by decide) (fun h => by cases h) rfl (Nat.le_of_ble_eq_true rfl) ?_
  intro G m X
  show ab_R E G m 1 0 0 0 [(0, .ref 1)] [] (hc r s w c b d k t ++ Z)
  refine a_aload_n X 0 d_H_total_0 rfl rfl ?_
  refine a_get X ff_H_28 d_H_total_1 hq_0 rfl ?_
  refine a_callV X (a := 15) (As := []) hq_15 rfl fb_Ws_whole lk_H_119 im_Ws_whole se_Ws_whole (c_who_w hr hs hk) rfl rfl (Nat.le_of_ble_eq_true rfl) (by decide) (by decide) (Nat.le_refl _) (Nat.le_refl _) d_H_total_4 (fun v h1 hp => ?_)
  obtain ⟨w1, hok, hkn, hsm, rfl, rfl⟩ := hp
  exact a_lret X d_H_total_7 (Nat.le_refl _) (Nat.le_refl _) ⟨w1, hok, hkn, hsm, rfl, rfl⟩
set_option maxHeartbeats 4000000 in
set_option maxRecDepth 20000 in
theorem c_H_ways {E : ab_E} {l : Launch} {r : hR} {s : hS} {w c : hW} {b : hB} {d : hD} {k : hK} {t : hT} {Z : List ab_C} (hr : okR r) (hs : okS s) (hk : c.2.2.2.2.2 = 0 ∨ c.2.2.2.2.2 = 1 ∧ okW cuC r s c) : ab_Con E l y_H_ways b_H_ways 1 (some .int) 6 138 [.ref 1] (hc r s w c b d k t ++ Z) 0 0 (fun v h1 => ∃ w1 : hW, okW cuC r s w1 ∧ w1.2.2.2.2.2 = 1 ∧ (c.2.2.2.2.2 = 1 → w1 = c) ∧ v = some (.int (nI (if r.2.2 = 0 then 0 else sumR (fun y => w1.2.2.2.2.1 0 y * w1.2.1 0 y) 0 s.2.2))) ∧ h1 = hc r s w w1 b d k t ++ Z) := by
  refine ab_con (own := "HiddenRows") (ini := false) (by decide) (fun h => by cases h) rfl (Nat.le_of_ble_eq_true rfl) ?_
  intro G m X
  show ab_R E G m 1 0 0 0 [(0, .ref 1)] [] (hc r s w c b d k t ++ Z)
  refine a_aload_n X 0 d_H_ways_0 rfl rfl ?_
  refine a_get X ff_H_32 d_H_ways_1 hq_0 rfl ?_
  refine a_callV X (a := 53) (As := []) hq_53 rfl fb_Ws_whole lk_H_119 im_Ws_whole se_Ws_whole (c_who_c hr hs hk) rfl rfl (Nat.le_of_ble_eq_true rfl) (by decide) (by decide) (Nat.le_refl _) (Nat.le_refl _) d_H_ways_4 (fun v h1 hp => ?_)
  obtain ⟨w1, hok, hkn, hsm, rfl, rfl⟩ := hp
  refine a_l2i X d_H_ways_7 ?_
  refine ab_topi (lN_i _) ?_
  exact a_iret X d_H_ways_8 (Nat.le_refl _) (Nat.le_refl _) ⟨w1, hok, hkn, hsm, rfl, rfl⟩
set_option maxHeartbeats 4000000 in
set_option maxRecDepth 20000 in
theorem c_H_share_ok {E : ab_E} {l : Launch} {r : hR} {s : hS} {w c : hW} {b : hB} {d : hD} {k : hK} {t : hT} {Z : List ab_C} {p j pt : Nat} (hr : okR r) (hs : okS s) (hk : w.2.2.2.2.2 = 0 ∨ w.2.2.2.2.2 = 1 ∧ okW id r s w) (hp : p < r.2.2) (hj : j < s.2.2) (hpt : pt ≤ 1) (hA : ∀ w1, okW id r s w1 → sumR (fun y => w1.2.2.2.2.1 y j * lonR id s r.2.2 w1.1 w1.2.2.1 (p - y) y j) (p - 2) (p + 1 - (p - 2)) < 2 ^ 63) (hT : ∀ w1, okW id r s w1 → (if r.2.2 = 0 then 0 else sumR (fun y => w1.2.2.2.2.1 0 y * w1.2.1 0 y) 0 s.2.2) < 2 ^ 63) : ab_Con E l y_H_share b_H_share 4 (some .long) 6 140 [.ref 1, .int (nI p), .int (nI j), .int (nI pt)] (hc r s w c b d k t ++ Z) 0 0 (fun v h1 => ∃ w1 : hW, okW id r s w1 ∧ w1.2.2.2.2.2 = 1 ∧ (w.2.2.2.2.2 = 1 → w1 = w) ∧ v = some (.long (lowR (sumR (fun y => w1.2.2.2.2.1 y j * lonR id s r.2.2 w1.1 w1.2.2.1 (p - y) y j) (p - 2) (p + 1 - (p - 2))) (if r.2.2 = 0 then 0 else sumR (fun y => w1.2.2.2.2.1 0 y * w1.2.1 0 y) 0 s.2.2) pt)) ∧ h1 = hc r s w1 c b d k t ++ Z) := by
  refine ab_con (own := "HiddenRows") (ini := false) (by decide) (fun h => by cases h) rfl (Nat.le_of_ble_eq_true rfl) ?_
  intro G m X
  show ab_R E G m 4 0 0 0 [(0, .ref 1), (1, .int (nI p)), (2, .int (nI j)), (3, .int (nI pt))] [] (hc r s w c b d k t ++ Z)
  refine a_aload_n X 0 d_H_share_0 rfl rfl ?_
  refine a_get X ff_H_12 d_H_share_1 hq_0 rfl ?_
  refine a_iload_n X 1 d_H_share_4 rfl rfl ?_
  refine a_callV X (a := 1) (As := [.int _]) hq_1 rfl fb_Ro_has lk_H_114 im_Ro_has se_Ro_has (c_Ro_has_y hp hr.1) rfl rfl (Nat.le_of_ble_eq_true rfl) (by decide) (by decide) (Nat.le_refl _) (Nat.le_refl _) d_H_share_5 (fun v h1 hp => ?_)
  obtain ⟨rfl, rfl⟩ := hp
  refine a_if_eqN X 22 (by omega) d_H_share_8 (by decide) (fun c8 => ?_) (fun c8 => ?_)
  ·
    exfalso
    omega
  ·
    refine a_aload_n X 0 d_H_share_11 rfl rfl ?_
    refine a_get X ff_H_19 d_H_share_12 hq_0 rfl ?_
    refine a_iload_n X 2 d_H_share_15 rfl rfl ?_
    refine a_callV X (a := 4) (As := [.int _]) hq_4 rfl fb_St_has lk_H_78 im_St_has se_St_has (c_St_has_y hj hs.1) rfl rfl (Nat.le_of_ble_eq_true rfl) (by decide) (by decide) (Nat.le_refl _) (Nat.le_refl _) d_H_share_16 (fun v h1 hp => ?_)
    obtain ⟨rfl, rfl⟩ := hp
    refine a_if_neN X 26 (by omega) d_H_share_19 (by decide) (fun c19 => ?_) (fun c19 => ?_)
    ·
      refine a_iload_n X 3 d_H_share_26 rfl rfl ?_
      refine a_callS X (As := [.int _]) fb_H_isPart lk_H_125 sm_H_isPart (c_isP_y hpt) rfl rfl (Nat.le_of_ble_eq_true rfl) (by decide) (by decide) (Nat.le_refl _) (Nat.le_refl _) d_H_share_27 (fun v h1 hp => ?_)
      obtain ⟨rfl, rfl⟩ := hp
      refine a_if_neN X 37 (by omega) d_H_share_30 (by decide) (fun c30 => ?_) (fun c30 => ?_)
      ·
        refine a_aload_n X 0 d_H_share_37 rfl rfl ?_
        refine a_get X ff_H_28 d_H_share_38 hq_0 rfl ?_
        refine a_iload_n X 1 d_H_share_41 rfl rfl ?_
        refine a_iload_n X 2 d_H_share_42 rfl rfl ?_
        refine a_callV X (a := 15) (As := [.int (nI _), .int (nI _)]) hq_15 rfl fb_Ws_over lk_H_130 im_Ws_over se_Ws_over (c_ove_w hr hs hk hp (Nat.lt_of_lt_of_le hj hs.1)) rfl rfl (Nat.le_of_ble_eq_true rfl) (by decide) (by decide) (Nat.le_refl _) (Nat.le_refl _) d_H_share_43 (fun v h1 hp => ?_)
        obtain ⟨w1, hok, hkn, hsm, rfl, rfl⟩ := hp
        refine a_aload_n X 0 d_H_share_46 rfl rfl ?_
        refine a_get X ff_H_28 d_H_share_47 hq_0 rfl ?_
        refine a_callV X (a := 15) (As := []) hq_15 rfl fb_Ws_whole lk_H_119 im_Ws_whole se_Ws_whole (c_who_w hr hs (Or.inr ⟨hkn, hok⟩)) rfl rfl (Nat.le_of_ble_eq_true rfl) (by decide) (by decide) (Nat.le_refl _) (Nat.le_refl _) d_H_share_50 (fun v h1 hp => ?_)
        obtain ⟨w2, hok2, hkn2, hsm2, rfl, rfl⟩ := hp
        obtain rfl := (hsm2 hkn).symm
        refine a_iload_n X 3 d_H_share_53 rfl rfl ?_
        refine a_callS X (As := [.long (lN _), .long (lN _), .int (nI _)]) fb_H_lowestTerms lk_H_134 sm_H_lowestTerms (c_low (hA w1 hok) (hT w1 hok) hpt) rfl rfl (Nat.le_of_ble_eq_true rfl) (by decide) (by decide) (Nat.le_refl _) (Nat.le_refl _) d_H_share_54 (fun v h1 hp => ?_)
        obtain ⟨rfl, rfl⟩ := hp
        exact a_lret X d_H_share_57 (Nat.le_refl _) (Nat.le_refl _) ⟨w1, hok, hkn, hsm, rfl, rfl⟩
      ·
        exfalso
        omega
    ·
      exfalso
      omega
set_option maxHeartbeats 4000000 in
set_option maxRecDepth 20000 in
theorem c_H_share_p {E : ab_E} {l : Launch} {r : hR} {s : hS} {w c : hW} {b : hB} {d : hD} {k : hK} {t : hT} {Z : List ab_C} {a e x : Int32} (ha : a < 0 ∨ nI r.2.2 ≤ a) : ab_Con E l y_H_share b_H_share 4 (some .long) 6 140 [.ref 1, .int a, .int e, .int x] (hc r s w c b d k t ++ Z) 0 0 (fun v h1 => v = some (.long (-1)) ∧ h1 = hc r s w c b d k t ++ Z) := by
  refine ab_con (own := "HiddenRows") (ini := false) (by decide) (fun h => by cases h) rfl (Nat.le_of_ble_eq_true rfl) ?_
  intro G m X
  show ab_R E G m 4 0 0 0 [(0, .ref 1), (1, .int a), (2, .int e), (3, .int x)] [] (hc r s w c b d k t ++ Z)
  refine a_aload_n X 0 d_H_share_0 rfl rfl ?_
  refine a_get X ff_H_12 d_H_share_1 hq_0 rfl ?_
  refine a_iload_n X 1 d_H_share_4 rfl rfl ?_
  refine a_callV X (a := 1) (As := [.int _]) hq_1 rfl fb_Ro_has lk_H_114 im_Ro_has se_Ro_has (c_Ro_has_n ha) rfl rfl (Nat.le_of_ble_eq_true rfl) (by decide) (by decide) (Nat.le_refl _) (Nat.le_refl _) d_H_share_5 (fun v h1 hp => ?_)
  obtain ⟨rfl, rfl⟩ := hp
  refine a_if_eqN X 22 (by omega) d_H_share_8 (by decide) (fun c8 => ?_) (fun c8 => ?_)
  ·
    refine a_ldc2 X kc_H_123 d_H_share_22 ?_
    exact a_lret X d_H_share_25 (Nat.le_refl _) (Nat.le_refl _) ⟨rfl, rfl⟩
  ·
    exfalso
    omega
set_option maxHeartbeats 4000000 in
set_option maxRecDepth 20000 in
theorem c_H_share_s {E : ab_E} {l : Launch} {r : hR} {s : hS} {w c : hW} {b : hB} {d : hD} {k : hK} {t : hT} {Z : List ab_C} {p : Nat} {e x : Int32} (hn : r.2.2 ≤ 6) (hp : p < r.2.2) (he : e < 0 ∨ nI s.2.2 ≤ e) : ab_Con E l y_H_share b_H_share 4 (some .long) 6 140 [.ref 1, .int (nI p), .int e, .int x] (hc r s w c b d k t ++ Z) 0 0 (fun v h1 => v = some (.long (-1)) ∧ h1 = hc r s w c b d k t ++ Z) := by
  refine ab_con (own := "HiddenRows") (ini := false) (by decide) (fun h => by cases h) rfl (Nat.le_of_ble_eq_true rfl) ?_
  intro G m X
  show ab_R E G m 4 0 0 0 [(0, .ref 1), (1, .int (nI p)), (2, .int e), (3, .int x)] [] (hc r s w c b d k t ++ Z)
  refine a_aload_n X 0 d_H_share_0 rfl rfl ?_
  refine a_get X ff_H_12 d_H_share_1 hq_0 rfl ?_
  refine a_iload_n X 1 d_H_share_4 rfl rfl ?_
  refine a_callV X (a := 1) (As := [.int _]) hq_1 rfl fb_Ro_has lk_H_114 im_Ro_has se_Ro_has (c_Ro_has_y hp hn) rfl rfl (Nat.le_of_ble_eq_true rfl) (by decide) (by decide) (Nat.le_refl _) (Nat.le_refl _) d_H_share_5 (fun v h1 hp => ?_)
  obtain ⟨rfl, rfl⟩ := hp
  refine a_if_eqN X 22 (by omega) d_H_share_8 (by decide) (fun c8 => ?_) (fun c8 => ?_)
  ·
    exfalso
    omega
  ·
    refine a_aload_n X 0 d_H_share_11 rfl rfl ?_
    refine a_get X ff_H_19 d_H_share_12 hq_0 rfl ?_
    refine a_iload_n X 2 d_H_share_15 rfl rfl ?_
    refine a_callV X (a := 4) (As := [.int _]) hq_4 rfl fb_St_has lk_H_78 im_St_has se_St_has (c_St_has_n he) rfl rfl (Nat.le_of_ble_eq_true rfl) (by decide) (by decide) (Nat.le_refl _) (Nat.le_refl _) d_H_share_16 (fun v h1 hp => ?_)
    obtain ⟨rfl, rfl⟩ := hp
    refine a_if_neN X 26 (by omega) d_H_share_19 (by decide) (fun c19 => ?_) (fun c19 => ?_)
    ·
      exfalso
      omega
    ·
      refine a_ldc2 X kc_H_123 d_H_share_22 ?_
      exact a_lret X d_H_share_25 (Nat.le_refl _) (Nat.le_refl _) ⟨rfl, rfl⟩
set_option maxHeartbeats 4000000 in
set_option maxRecDepth 20000 in
theorem c_H_share_x {E : ab_E} {l : Launch} {r : hR} {s : hS} {w c : hW} {b : hB} {d : hD} {k : hK} {t : hT} {Z : List ab_C} {p j : Nat} {x : Int32} (hn : r.2.2 ≤ 6) (hp : p < r.2.2) (hq : s.2.2 ≤ 4) (hj : j < s.2.2) (hx : x ≠ 0 ∧ x ≠ nI 1) : ab_Con E l y_H_share b_H_share 4 (some .long) 6 140 [.ref 1, .int (nI p), .int (nI j), .int x] (hc r s w c b d k t ++ Z) 0 0 (fun v h1 => v = some (.long (-2)) ∧ h1 = hc r s w c b d k t ++ Z) := by
  refine ab_con (own := "HiddenRows") (ini := false) (by decide) (fun h => by cases h) rfl (Nat.le_of_ble_eq_true rfl) ?_
  intro G m X
  show ab_R E G m 4 0 0 0 [(0, .ref 1), (1, .int (nI p)), (2, .int (nI j)), (3, .int x)] [] (hc r s w c b d k t ++ Z)
  refine a_aload_n X 0 d_H_share_0 rfl rfl ?_
  refine a_get X ff_H_12 d_H_share_1 hq_0 rfl ?_
  refine a_iload_n X 1 d_H_share_4 rfl rfl ?_
  refine a_callV X (a := 1) (As := [.int _]) hq_1 rfl fb_Ro_has lk_H_114 im_Ro_has se_Ro_has (c_Ro_has_y hp hn) rfl rfl (Nat.le_of_ble_eq_true rfl) (by decide) (by decide) (Nat.le_refl _) (Nat.le_refl _) d_H_share_5 (fun v h1 hp => ?_)
  obtain ⟨rfl, rfl⟩ := hp
  refine a_if_eqN X 22 (by omega) d_H_share_8 (by decide) (fun c8 => ?_) (fun c8 => ?_)
  ·
    exfalso
    omega
  ·
    refine a_aload_n X 0 d_H_share_11 rfl rfl ?_
    refine a_get X ff_H_19 d_H_share_12 hq_0 rfl ?_
    refine a_iload_n X 2 d_H_share_15 rfl rfl ?_
    refine a_callV X (a := 4) (As := [.int _]) hq_4 rfl fb_St_has lk_H_78 im_St_has se_St_has (c_St_has_y hj hq) rfl rfl (Nat.le_of_ble_eq_true rfl) (by decide) (by decide) (Nat.le_refl _) (Nat.le_refl _) d_H_share_16 (fun v h1 hp => ?_)
    obtain ⟨rfl, rfl⟩ := hp
    refine a_if_neN X 26 (by omega) d_H_share_19 (by decide) (fun c19 => ?_) (fun c19 => ?_)
    ·
      refine a_iload_n X 3 d_H_share_26 rfl rfl ?_
      refine a_callS X (As := [.int _]) fb_H_isPart lk_H_125 sm_H_isPart (c_isP_n hx) rfl rfl (Nat.le_of_ble_eq_true rfl) (by decide) (by decide) (Nat.le_refl _) (Nat.le_refl _) d_H_share_27 (fun v h1 hp => ?_)
      obtain ⟨rfl, rfl⟩ := hp
      refine a_if_neN X 37 (by omega) d_H_share_30 (by decide) (fun c30 => ?_) (fun c30 => ?_)
      ·
        exfalso
        omega
      ·
        refine a_ldc2 X kc_H_128 d_H_share_33 ?_
        exact a_lret X d_H_share_36 (Nat.le_refl _) (Nat.le_refl _) ⟨rfl, rfl⟩
    ·
      exfalso
      omega
set_option maxHeartbeats 4000000 in
set_option maxRecDepth 20000 in
theorem c_H_begin_ok {E : ab_E} {l : Launch} {r : hR} {s : hS} {w c : hW} {b : hB} {d : hD} {k : hK} {t : hT} {Z : List ab_C} {p j pt : Nat} (hr : okR r) (hs : okS s) (hk : w.2.2.2.2.2 = 0 ∨ w.2.2.2.2.2 = 1 ∧ okW id r s w) (hp : p < r.2.2) (hj : j < s.2.2) (hpt : pt ≤ 1) (hA : ∀ w1, okW id r s w1 → w1.2.2.2.2.1 p j * w1.2.1 p j < 2 ^ 63) (hT : ∀ w1, okW id r s w1 → (if r.2.2 = 0 then 0 else sumR (fun y => w1.2.2.2.2.1 0 y * w1.2.1 0 y) 0 s.2.2) < 2 ^ 63) : ab_Con E l y_H_begin b_H_begin 4 (some .long) 6 138 [.ref 1, .int (nI p), .int (nI j), .int (nI pt)] (hc r s w c b d k t ++ Z) 0 0 (fun v h1 => ∃ w1 : hW, okW id r s w1 ∧ w1.2.2.2.2.2 = 1 ∧ (w.2.2.2.2.2 = 1 → w1 = w) ∧ v = some (.long (lowR (w1.2.2.2.2.1 p j * w1.2.1 p j) (if r.2.2 = 0 then 0 else sumR (fun y => w1.2.2.2.2.1 0 y * w1.2.1 0 y) 0 s.2.2) pt)) ∧ h1 = hc r s w1 c b d k t ++ Z) := by
  refine ab_con (own := "HiddenRows") (ini := false) (by decide) (fun h => by cases h) rfl (Nat.le_of_ble_eq_true rfl) ?_
  intro G m X
  show ab_R E G m 4 0 0 0 [(0, .ref 1), (1, .int (nI p)), (2, .int (nI j)), (3, .int (nI pt))] [] (hc r s w c b d k t ++ Z)
  refine a_aload_n X 0 d_H_begin_0 rfl rfl ?_
  refine a_get X ff_H_12 d_H_begin_1 hq_0 rfl ?_
  refine a_iload_n X 1 d_H_begin_4 rfl rfl ?_
  refine a_callV X (a := 1) (As := [.int _]) hq_1 rfl fb_Ro_has lk_H_114 im_Ro_has se_Ro_has (c_Ro_has_y hp hr.1) rfl rfl (Nat.le_of_ble_eq_true rfl) (by decide) (by decide) (Nat.le_refl _) (Nat.le_refl _) d_H_begin_5 (fun v h1 hp => ?_)
  obtain ⟨rfl, rfl⟩ := hp
  refine a_if_eqN X 22 (by omega) d_H_begin_8 (by decide) (fun c8 => ?_) (fun c8 => ?_)
  ·
    exfalso
    omega
  ·
    refine a_aload_n X 0 d_H_begin_11 rfl rfl ?_
    refine a_get X ff_H_19 d_H_begin_12 hq_0 rfl ?_
    refine a_iload_n X 2 d_H_begin_15 rfl rfl ?_
    refine a_callV X (a := 4) (As := [.int _]) hq_4 rfl fb_St_has lk_H_78 im_St_has se_St_has (c_St_has_y hj hs.1) rfl rfl (Nat.le_of_ble_eq_true rfl) (by decide) (by decide) (Nat.le_refl _) (Nat.le_refl _) d_H_begin_16 (fun v h1 hp => ?_)
    obtain ⟨rfl, rfl⟩ := hp
    refine a_if_neN X 26 (by omega) d_H_begin_19 (by decide) (fun c19 => ?_) (fun c19 => ?_)
    ·
      refine a_iload_n X 3 d_H_begin_26 rfl rfl ?_
      refine a_callS X (As := [.int _]) fb_H_isPart lk_H_125 sm_H_isPart (c_isP_y hpt) rfl rfl (Nat.le_of_ble_eq_true rfl) (by decide) (by decide) (Nat.le_refl _) (Nat.le_refl _) d_H_begin_27 (fun v h1 hp => ?_)
      obtain ⟨rfl, rfl⟩ := hp
      refine a_if_neN X 37 (by omega) d_H_begin_30 (by decide) (fun c30 => ?_) (fun c30 => ?_)
      ·
        refine a_aload_n X 0 d_H_begin_37 rfl rfl ?_
        refine a_get X ff_H_28 d_H_begin_38 hq_0 rfl ?_
        refine a_iload_n X 1 d_H_begin_41 rfl rfl ?_
        refine a_iload_n X 2 d_H_begin_42 rfl rfl ?_
        refine a_callV X (a := 15) (As := [.int (nI _), .int (nI _)]) hq_15 rfl fb_Ws_beginning lk_H_138 im_Ws_beginning se_Ws_beginning (c_beg_w hr hs hk (Nat.lt_of_lt_of_le hp hr.1) (Nat.lt_of_lt_of_le hj hs.1)) rfl rfl (Nat.le_of_ble_eq_true rfl) (by decide) (by decide) (Nat.le_refl _) (Nat.le_refl _) d_H_begin_43 (fun v h1 hp => ?_)
        obtain ⟨w1, hok, hkn, hsm, rfl, rfl⟩ := hp
        refine a_aload_n X 0 d_H_begin_46 rfl rfl ?_
        refine a_get X ff_H_28 d_H_begin_47 hq_0 rfl ?_
        refine a_callV X (a := 15) (As := []) hq_15 rfl fb_Ws_whole lk_H_119 im_Ws_whole se_Ws_whole (c_who_w hr hs (Or.inr ⟨hkn, hok⟩)) rfl rfl (Nat.le_of_ble_eq_true rfl) (by decide) (by decide) (Nat.le_refl _) (Nat.le_refl _) d_H_begin_50 (fun v h1 hp => ?_)
        obtain ⟨w2, hok2, hkn2, hsm2, rfl, rfl⟩ := hp
        obtain rfl := (hsm2 hkn).symm
        refine a_iload_n X 3 d_H_begin_53 rfl rfl ?_
        refine a_callS X (As := [.long (lN _), .long (lN _), .int (nI _)]) fb_H_lowestTerms lk_H_134 sm_H_lowestTerms (c_low (hA w1 hok) (hT w1 hok) hpt) rfl rfl (Nat.le_of_ble_eq_true rfl) (by decide) (by decide) (Nat.le_refl _) (Nat.le_refl _) d_H_begin_54 (fun v h1 hp => ?_)
        obtain ⟨rfl, rfl⟩ := hp
        exact a_lret X d_H_begin_57 (Nat.le_refl _) (Nat.le_refl _) ⟨w1, hok, hkn, hsm, rfl, rfl⟩
      ·
        exfalso
        omega
    ·
      exfalso
      omega
set_option maxHeartbeats 4000000 in
set_option maxRecDepth 20000 in
theorem c_H_begin_p {E : ab_E} {l : Launch} {r : hR} {s : hS} {w c : hW} {b : hB} {d : hD} {k : hK} {t : hT} {Z : List ab_C} {a e x : Int32} (ha : a < 0 ∨ nI r.2.2 ≤ a) : ab_Con E l y_H_begin b_H_begin 4 (some .long) 6 138 [.ref 1, .int a, .int e, .int x] (hc r s w c b d k t ++ Z) 0 0 (fun v h1 => v = some (.long (-1)) ∧ h1 = hc r s w c b d k t ++ Z) := by
  refine ab_con (own := "HiddenRows") (ini := false) (by decide) (fun h => by cases h) rfl (Nat.le_of_ble_eq_true rfl) ?_
  intro G m X
  show ab_R E G m 4 0 0 0 [(0, .ref 1), (1, .int a), (2, .int e), (3, .int x)] [] (hc r s w c b d k t ++ Z)
  refine a_aload_n X 0 d_H_begin_0 rfl rfl ?_
  refine a_get X ff_H_12 d_H_begin_1 hq_0 rfl ?_
  refine a_iload_n X 1 d_H_begin_4 rfl rfl ?_
  refine a_callV X (a := 1) (As := [.int _]) hq_1 rfl fb_Ro_has lk_H_114 im_Ro_has se_Ro_has (c_Ro_has_n ha) rfl rfl (Nat.le_of_ble_eq_true rfl) (by decide) (by decide) (Nat.le_refl _) (Nat.le_refl _) d_H_begin_5 (fun v h1 hp => ?_)
  obtain ⟨rfl, rfl⟩ := hp
  refine a_if_eqN X 22 (by omega) d_H_begin_8 (by decide) (fun c8 => ?_) (fun c8 => ?_)
  ·
    refine a_ldc2 X kc_H_123 d_H_begin_22 ?_
    exact a_lret X d_H_begin_25 (Nat.le_refl _) (Nat.le_refl _) ⟨rfl, rfl⟩
  ·
    exfalso
    omega
set_option maxHeartbeats 4000000 in
set_option maxRecDepth 20000 in
theorem c_H_begin_s {E : ab_E} {l : Launch} {r : hR} {s : hS} {w c : hW} {b : hB} {d : hD} {k : hK} {t : hT} {Z : List ab_C} {p : Nat} {e x : Int32} (hn : r.2.2 ≤ 6) (hp : p < r.2.2) (he : e < 0 ∨ nI s.2.2 ≤ e) : ab_Con E l y_H_begin b_H_begin 4 (some .long) 6 138 [.ref 1, .int (nI p), .int e, .int x] (hc r s w c b d k t ++ Z) 0 0 (fun v h1 => v = some (.long (-1)) ∧ h1 = hc r s w c b d k t ++ Z) := by
  refine ab_con (own := "HiddenRows") (ini := false) (by decide) (fun h => by cases h) rfl (Nat.le_of_ble_eq_true rfl) ?_
  intro G m X
  show ab_R E G m 4 0 0 0 [(0, .ref 1), (1, .int (nI p)), (2, .int e), (3, .int x)] [] (hc r s w c b d k t ++ Z)
  refine a_aload_n X 0 d_H_begin_0 rfl rfl ?_
  refine a_get X ff_H_12 d_H_begin_1 hq_0 rfl ?_
  refine a_iload_n X 1 d_H_begin_4 rfl rfl ?_
  refine a_callV X (a := 1) (As := [.int _]) hq_1 rfl fb_Ro_has lk_H_114 im_Ro_has se_Ro_has (c_Ro_has_y hp hn) rfl rfl (Nat.le_of_ble_eq_true rfl) (by decide) (by decide) (Nat.le_refl _) (Nat.le_refl _) d_H_begin_5 (fun v h1 hp => ?_)
  obtain ⟨rfl, rfl⟩ := hp
  refine a_if_eqN X 22 (by omega) d_H_begin_8 (by decide) (fun c8 => ?_) (fun c8 => ?_)
  ·
    exfalso
    omega
  ·
    refine a_aload_n X 0 d_H_begin_11 rfl rfl ?_
    refine a_get X ff_H_19 d_H_begin_12 hq_0 rfl ?_
    refine a_iload_n X 2 d_H_begin_15 rfl rfl ?_
    refine a_callV X (a := 4) (As := [.int _]) hq_4 rfl fb_St_has lk_H_78 im_St_has se_St_has (c_St_has_n he) rfl rfl (Nat.le_of_ble_eq_true rfl) (by decide) (by decide) (Nat.le_refl _) (Nat.le_refl _) d_H_begin_16 (fun v h1 hp => ?_)
    obtain ⟨rfl, rfl⟩ := hp
    refine a_if_neN X 26 (by omega) d_H_begin_19 (by decide) (fun c19 => ?_) (fun c19 => ?_)
    ·
      exfalso
      omega
    ·
      refine a_ldc2 X kc_H_123 d_H_begin_22 ?_
      exact a_lret X d_H_begin_25 (Nat.le_refl _) (Nat.le_refl _) ⟨rfl, rfl⟩
set_option maxHeartbeats 4000000 in
set_option maxRecDepth 20000 in
theorem c_H_begin_x {E : ab_E} {l : Launch} {r : hR} {s : hS} {w c : hW} {b : hB} {d : hD} {k : hK} {t : hT} {Z : List ab_C} {p j : Nat} {x : Int32} (hn : r.2.2 ≤ 6) (hp : p < r.2.2) (hq : s.2.2 ≤ 4) (hj : j < s.2.2) (hx : x ≠ 0 ∧ x ≠ nI 1) : ab_Con E l y_H_begin b_H_begin 4 (some .long) 6 138 [.ref 1, .int (nI p), .int (nI j), .int x] (hc r s w c b d k t ++ Z) 0 0 (fun v h1 => v = some (.long (-2)) ∧ h1 = hc r s w c b d k t ++ Z) := by
  refine ab_con (own := "HiddenRows") (ini := false) (by decide) (fun h => by cases h) rfl (Nat.le_of_ble_eq_true rfl) ?_
  intro G m X
  show ab_R E G m 4 0 0 0 [(0, .ref 1), (1, .int (nI p)), (2, .int (nI j)), (3, .int x)] [] (hc r s w c b d k t ++ Z)
  refine a_aload_n X 0 d_H_begin_0 rfl rfl ?_
  refine a_get X ff_H_12 d_H_begin_1 hq_0 rfl ?_
  refine a_iload_n X 1 d_H_begin_4 rfl rfl ?_
  refine a_callV X (a := 1) (As := [.int _]) hq_1 rfl fb_Ro_has lk_H_114 im_Ro_has se_Ro_has (c_Ro_has_y hp hn) rfl rfl (Nat.le_of_ble_eq_true rfl) (by decide) (by decide) (Nat.le_refl _) (Nat.le_refl _) d_H_begin_5 (fun v h1 hp => ?_)
  obtain ⟨rfl, rfl⟩ := hp
  refine a_if_eqN X 22 (by omega) d_H_begin_8 (by decide) (fun c8 => ?_) (fun c8 => ?_)
  ·
    exfalso
    omega
  ·
    refine a_aload_n X 0 d_H_begin_11 rfl rfl ?_
    refine a_get X ff_H_19 d_H_begin_12 hq_0 rfl ?_
    refine a_iload_n X 2 d_H_begin_15 rfl rfl ?_
    refine a_callV X (a := 4) (As := [.int _]) hq_4 rfl fb_St_has lk_H_78 im_St_has se_St_has (c_St_has_y hj hq) rfl rfl (Nat.le_of_ble_eq_true rfl) (by decide) (by decide) (Nat.le_refl _) (Nat.le_refl _) d_H_begin_16 (fun v h1 hp => ?_)
    obtain ⟨rfl, rfl⟩ := hp
    refine a_if_neN X 26 (by omega) d_H_begin_19 (by decide) (fun c19 => ?_) (fun c19 => ?_)
    ·
      refine a_iload_n X 3 d_H_begin_26 rfl rfl ?_
      refine a_callS X (As := [.int _]) fb_H_isPart lk_H_125 sm_H_isPart (c_isP_n hx) rfl rfl (Nat.le_of_ble_eq_true rfl) (by decide) (by decide) (Nat.le_refl _) (Nat.le_refl _) d_H_begin_27 (fun v h1 hp => ?_)
      obtain ⟨rfl, rfl⟩ := hp
      refine a_if_neN X 37 (by omega) d_H_begin_30 (by decide) (fun c30 => ?_) (fun c30 => ?_)
      ·
        exfalso
        omega
      ·
        refine a_ldc2 X kc_H_128 d_H_begin_33 ?_
        exact a_lret X d_H_begin_36 (Nat.le_refl _) (Nat.le_refl _) ⟨rfl, rfl⟩
    ·
      exfalso
      omega
set_option maxHeartbeats 4000000 in
set_option maxRecDepth 20000 in
theorem c_H_pair_ok {E : ab_E} {l : Launch} {r : hR} {s : hS} {w c : hW} {b : hB} {d : hD} {k : hK} {t : hT} {Z : List ab_C} {p j z pt : Nat} (hr : okR r) (hs : okS s) (hk : w.2.2.2.2.2 = 0 ∨ w.2.2.2.2.2 = 1 ∧ okW id r s w) (hp : p + 1 < r.2.2) (hj : j < s.2.2) (hz : z < s.2.2) (hpt : pt ≤ 1) (hA : ∀ w1, okW id r s w1 → w1.2.2.2.1 (p + 1) j * id (s.2.1 j z) * w1.2.1 (p + 1) z < 2 ^ 63) (hT : ∀ w1, okW id r s w1 → (if r.2.2 = 0 then 0 else sumR (fun y => w1.2.2.2.2.1 0 y * w1.2.1 0 y) 0 s.2.2) < 2 ^ 63) : ab_Con E l y_H_pair b_H_pair 5 (some .long) 6 138 [.ref 1, .int (nI p), .int (nI j), .int (nI z), .int (nI pt)] (hc r s w c b d k t ++ Z) 0 0 (fun v h1 => ∃ w1 : hW, okW id r s w1 ∧ w1.2.2.2.2.2 = 1 ∧ (w.2.2.2.2.2 = 1 → w1 = w) ∧ v = some (.long (lowR (w1.2.2.2.1 (p + 1) j * id (s.2.1 j z) * w1.2.1 (p + 1) z) (if r.2.2 = 0 then 0 else sumR (fun y => w1.2.2.2.2.1 0 y * w1.2.1 0 y) 0 s.2.2) pt)) ∧ h1 = hc r s w1 c b d k t ++ Z) := by
  have hn := hr.1
  refine ab_con (own := "HiddenRows") (ini := false) (by decide) (fun h => by cases h) rfl (Nat.le_of_ble_eq_true rfl) ?_
  intro G m X
  show ab_R E G m 5 0 0 0 [(0, .ref 1), (1, .int (nI p)), (2, .int (nI j)), (3, .int (nI z)), (4, .int (nI pt))] [] (hc r s w c b d k t ++ Z)
  refine a_aload_n X 0 d_H_pair_0 rfl rfl ?_
  refine a_get X ff_H_12 d_H_pair_1 hq_0 rfl ?_
  refine a_iload_n X 1 d_H_pair_4 rfl rfl ?_
  refine a_callV X (a := 1) (As := [.int _]) hq_1 rfl fb_Ro_has lk_H_114 im_Ro_has se_Ro_has (c_Ro_has_y (show p < r.2.2 by omega) hr.1) rfl rfl (Nat.le_of_ble_eq_true rfl) (by decide) (by decide) (Nat.le_refl _) (Nat.le_refl _) d_H_pair_5 (fun v h1 hp => ?_)
  obtain ⟨rfl, rfl⟩ := hp
  refine a_if_eqN X 46 (by omega) d_H_pair_8 (by decide) (fun c8 => ?_) (fun c8 => ?_)
  ·
    exfalso
    omega
  ·
    refine a_iload_n X 1 d_H_pair_11 rfl rfl ?_
    refine a_aload_n X 0 d_H_pair_12 rfl rfl ?_
    refine a_get X ff_H_12 d_H_pair_13 hq_0 rfl ?_
    refine a_get X ff_H_107 d_H_pair_16 hq_1 rfl ?_
    refine a_iconst X (v := nI 1) d_H_pair_19 (by decide) ?_
    refine a_isub X d_H_pair_20 ?_
    refine ab_topi (pk_sub (by omega)) ?_
    refine a_icmp_geN X 46 (by omega) (by omega) d_H_pair_21 (by decide) (fun c21 => ?_) (fun c21 => ?_)
    ·
      exfalso
      omega
    ·
      refine a_aload_n X 0 d_H_pair_24 rfl rfl ?_
      refine a_get X ff_H_19 d_H_pair_25 hq_0 rfl ?_
      refine a_iload_n X 2 d_H_pair_28 rfl rfl ?_
      refine a_callV X (a := 4) (As := [.int _]) hq_4 rfl fb_St_has lk_H_78 im_St_has se_St_has (c_St_has_y hj hs.1) rfl rfl (Nat.le_of_ble_eq_true rfl) (by decide) (by decide) (Nat.le_refl _) (Nat.le_refl _) d_H_pair_29 (fun v h1 hp => ?_)
      obtain ⟨rfl, rfl⟩ := hp
      refine a_if_eqN X 46 (by omega) d_H_pair_32 (by decide) (fun c32 => ?_) (fun c32 => ?_)
      ·
        exfalso
        omega
      ·
        refine a_aload_n X 0 d_H_pair_35 rfl rfl ?_
        refine a_get X ff_H_19 d_H_pair_36 hq_0 rfl ?_
        refine a_iload_n X 3 d_H_pair_39 rfl rfl ?_
        refine a_callV X (a := 4) (As := [.int _]) hq_4 rfl fb_St_has lk_H_78 im_St_has se_St_has (c_St_has_y hz hs.1) rfl rfl (Nat.le_of_ble_eq_true rfl) (by decide) (by decide) (Nat.le_refl _) (Nat.le_refl _) d_H_pair_40 (fun v h1 hp => ?_)
        obtain ⟨rfl, rfl⟩ := hp
        refine a_if_neN X 50 (by omega) d_H_pair_43 (by decide) (fun c43 => ?_) (fun c43 => ?_)
        ·
          refine a_iload X d_H_pair_50 rfl ?_
          refine a_callS X (As := [.int _]) fb_H_isPart lk_H_125 sm_H_isPart (c_isP_y hpt) rfl rfl (Nat.le_of_ble_eq_true rfl) (by decide) (by decide) (Nat.le_refl _) (Nat.le_refl _) d_H_pair_52 (fun v h1 hp => ?_)
          obtain ⟨rfl, rfl⟩ := hp
          refine a_if_neN X 62 (by omega) d_H_pair_55 (by decide) (fun c55 => ?_) (fun c55 => ?_)
          ·
            refine a_aload_n X 0 d_H_pair_62 rfl rfl ?_
            refine a_get X ff_H_28 d_H_pair_63 hq_0 rfl ?_
            refine a_iload_n X 1 d_H_pair_66 rfl rfl ?_
            refine a_iconst X (v := nI 1) d_H_pair_67 (by decide) ?_
            refine a_iadd X d_H_pair_68 ?_
            refine ab_topi (nI_add _ _) ?_
            refine a_iload_n X 2 d_H_pair_69 rfl rfl ?_
            refine a_iload_n X 3 d_H_pair_70 rfl rfl ?_
            refine a_callV X (a := 15) (As := [.int (nI _), .int (nI _), .int (nI _)]) hq_15 rfl fb_Ws_moving lk_H_141 im_Ws_moving se_Ws_moving (c_mov_w hr hs hk (Nat.lt_of_lt_of_le hp hr.1) (Nat.lt_of_lt_of_le hj hs.1) (Nat.lt_of_lt_of_le hz hs.1)) rfl rfl (Nat.le_of_ble_eq_true rfl) (by decide) (by decide) (Nat.le_refl _) (Nat.le_refl _) d_H_pair_71 (fun v h1 hp => ?_)
            obtain ⟨w1, hok, hkn, hsm, rfl, rfl⟩ := hp
            refine a_aload_n X 0 d_H_pair_74 rfl rfl ?_
            refine a_get X ff_H_28 d_H_pair_75 hq_0 rfl ?_
            refine a_callV X (a := 15) (As := []) hq_15 rfl fb_Ws_whole lk_H_119 im_Ws_whole se_Ws_whole (c_who_w hr hs (Or.inr ⟨hkn, hok⟩)) rfl rfl (Nat.le_of_ble_eq_true rfl) (by decide) (by decide) (Nat.le_refl _) (Nat.le_refl _) d_H_pair_78 (fun v h1 hp => ?_)
            obtain ⟨w2, hok2, hkn2, hsm2, rfl, rfl⟩ := hp
            obtain rfl := (hsm2 hkn).symm
            refine a_iload X d_H_pair_81 rfl ?_
            refine a_callS X (As := [.long (lN _), .long (lN _), .int (nI _)]) fb_H_lowestTerms lk_H_134 sm_H_lowestTerms (c_low (hA w1 hok) (hT w1 hok) hpt) rfl rfl (Nat.le_of_ble_eq_true rfl) (by decide) (by decide) (Nat.le_refl _) (Nat.le_refl _) d_H_pair_83 (fun v h1 hp => ?_)
            obtain ⟨rfl, rfl⟩ := hp
            exact a_lret X d_H_pair_86 (Nat.le_refl _) (Nat.le_refl _) ⟨w1, hok, hkn, hsm, rfl, rfl⟩
          ·
            exfalso
            omega
        ·
          exfalso
          omega
set_option maxHeartbeats 4000000 in
set_option maxRecDepth 20000 in
theorem c_H_pair_p {E : ab_E} {l : Launch} {r : hR} {s : hS} {w c : hW} {b : hB} {d : hD} {k : hK} {t : hT} {Z : List ab_C} {a e f x : Int32} (ha : a < 0 ∨ nI r.2.2 ≤ a) : ab_Con E l y_H_pair b_H_pair 5 (some .long) 6 138 [.ref 1, .int a, .int e, .int f, .int x] (hc r s w c b d k t ++ Z) 0 0 (fun v h1 => v = some (.long (-1)) ∧ h1 = hc r s w c b d k t ++ Z) := by
  refine ab_con (own := "HiddenRows") (ini := false) (by decide) (fun h => by cases h) rfl (Nat.le_of_ble_eq_true rfl) ?_
  intro G m X
  show ab_R E G m 5 0 0 0 [(0, .ref 1), (1, .int a), (2, .int e), (3, .int f), (4, .int x)] [] (hc r s w c b d k t ++ Z)
  refine a_aload_n X 0 d_H_pair_0 rfl rfl ?_
  refine a_get X ff_H_12 d_H_pair_1 hq_0 rfl ?_
  refine a_iload_n X 1 d_H_pair_4 rfl rfl ?_
  refine a_callV X (a := 1) (As := [.int _]) hq_1 rfl fb_Ro_has lk_H_114 im_Ro_has se_Ro_has (c_Ro_has_n ha) rfl rfl (Nat.le_of_ble_eq_true rfl) (by decide) (by decide) (Nat.le_refl _) (Nat.le_refl _) d_H_pair_5 (fun v h1 hp => ?_)
  obtain ⟨rfl, rfl⟩ := hp
  refine a_if_eqN X 46 (by omega) d_H_pair_8 (by decide) (fun c8 => ?_) (fun c8 => ?_)
  ·
    refine a_ldc2 X kc_H_123 d_H_pair_46 ?_
    exact a_lret X d_H_pair_49 (Nat.le_refl _) (Nat.le_refl _) ⟨rfl, rfl⟩
  ·
    exfalso
    omega
set_option maxHeartbeats 4000000 in
set_option maxRecDepth 20000 in
theorem c_H_pair_l {E : ab_E} {l : Launch} {r : hR} {s : hS} {w c : hW} {b : hB} {d : hD} {k : hK} {t : hT} {Z : List ab_C} {p : Nat} {e f x : Int32} (hn : r.2.2 ≤ 6) (hp : p + 1 = r.2.2) : ab_Con E l y_H_pair b_H_pair 5 (some .long) 6 138 [.ref 1, .int (nI p), .int e, .int f, .int x] (hc r s w c b d k t ++ Z) 0 0 (fun v h1 => v = some (.long (-1)) ∧ h1 = hc r s w c b d k t ++ Z) := by
  refine ab_con (own := "HiddenRows") (ini := false) (by decide) (fun h => by cases h) rfl (Nat.le_of_ble_eq_true rfl) ?_
  intro G m X
  show ab_R E G m 5 0 0 0 [(0, .ref 1), (1, .int (nI p)), (2, .int e), (3, .int f), (4, .int x)] [] (hc r s w c b d k t ++ Z)
  refine a_aload_n X 0 d_H_pair_0 rfl rfl ?_
  refine a_get X ff_H_12 d_H_pair_1 hq_0 rfl ?_
  refine a_iload_n X 1 d_H_pair_4 rfl rfl ?_
  refine a_callV X (a := 1) (As := [.int _]) hq_1 rfl fb_Ro_has lk_H_114 im_Ro_has se_Ro_has (c_Ro_has_y (show p < r.2.2 by omega) hn) rfl rfl (Nat.le_of_ble_eq_true rfl) (by decide) (by decide) (Nat.le_refl _) (Nat.le_refl _) d_H_pair_5 (fun v h1 hp => ?_)
  obtain ⟨rfl, rfl⟩ := hp
  refine a_if_eqN X 46 (by omega) d_H_pair_8 (by decide) (fun c8 => ?_) (fun c8 => ?_)
  ·
    exfalso
    omega
  ·
    refine a_iload_n X 1 d_H_pair_11 rfl rfl ?_
    refine a_aload_n X 0 d_H_pair_12 rfl rfl ?_
    refine a_get X ff_H_12 d_H_pair_13 hq_0 rfl ?_
    refine a_get X ff_H_107 d_H_pair_16 hq_1 rfl ?_
    refine a_iconst X (v := nI 1) d_H_pair_19 (by decide) ?_
    refine a_isub X d_H_pair_20 ?_
    refine ab_topi (pk_sub (by omega)) ?_
    refine a_icmp_geN X 46 (by omega) (by omega) d_H_pair_21 (by decide) (fun c21 => ?_) (fun c21 => ?_)
    ·
      refine a_ldc2 X kc_H_123 d_H_pair_46 ?_
      exact a_lret X d_H_pair_49 (Nat.le_refl _) (Nat.le_refl _) ⟨rfl, rfl⟩
    ·
      exfalso
      omega
set_option maxHeartbeats 4000000 in
set_option maxRecDepth 20000 in
theorem c_H_pair_s {E : ab_E} {l : Launch} {r : hR} {s : hS} {w c : hW} {b : hB} {d : hD} {k : hK} {t : hT} {Z : List ab_C} {p : Nat} {e f x : Int32} (hn : r.2.2 ≤ 6) (hp : p + 1 < r.2.2) (he : e < 0 ∨ nI s.2.2 ≤ e) : ab_Con E l y_H_pair b_H_pair 5 (some .long) 6 138 [.ref 1, .int (nI p), .int e, .int f, .int x] (hc r s w c b d k t ++ Z) 0 0 (fun v h1 => v = some (.long (-1)) ∧ h1 = hc r s w c b d k t ++ Z) := by
  refine ab_con (own := "HiddenRows") (ini := false) (by decide) (fun h => by cases h) rfl (Nat.le_of_ble_eq_true rfl) ?_
  intro G m X
  show ab_R E G m 5 0 0 0 [(0, .ref 1), (1, .int (nI p)), (2, .int e), (3, .int f), (4, .int x)] [] (hc r s w c b d k t ++ Z)
  refine a_aload_n X 0 d_H_pair_0 rfl rfl ?_
  refine a_get X ff_H_12 d_H_pair_1 hq_0 rfl ?_
  refine a_iload_n X 1 d_H_pair_4 rfl rfl ?_
  refine a_callV X (a := 1) (As := [.int _]) hq_1 rfl fb_Ro_has lk_H_114 im_Ro_has se_Ro_has (c_Ro_has_y (show p < r.2.2 by omega) hn) rfl rfl (Nat.le_of_ble_eq_true rfl) (by decide) (by decide) (Nat.le_refl _) (Nat.le_refl _) d_H_pair_5 (fun v h1 hp => ?_)
  obtain ⟨rfl, rfl⟩ := hp
  refine a_if_eqN X 46 (by omega) d_H_pair_8 (by decide) (fun c8 => ?_) (fun c8 => ?_)
  ·
    exfalso
    omega
  ·
    refine a_iload_n X 1 d_H_pair_11 rfl rfl ?_
    refine a_aload_n X 0 d_H_pair_12 rfl rfl ?_
    refine a_get X ff_H_12 d_H_pair_13 hq_0 rfl ?_
    refine a_get X ff_H_107 d_H_pair_16 hq_1 rfl ?_
    refine a_iconst X (v := nI 1) d_H_pair_19 (by decide) ?_
    refine a_isub X d_H_pair_20 ?_
    refine ab_topi (pk_sub (by omega)) ?_
    refine a_icmp_geN X 46 (by omega) (by omega) d_H_pair_21 (by decide) (fun c21 => ?_) (fun c21 => ?_)
    ·
      exfalso
      omega
    ·
      refine a_aload_n X 0 d_H_pair_24 rfl rfl ?_
      refine a_get X ff_H_19 d_H_pair_25 hq_0 rfl ?_
      refine a_iload_n X 2 d_H_pair_28 rfl rfl ?_
      refine a_callV X (a := 4) (As := [.int _]) hq_4 rfl fb_St_has lk_H_78 im_St_has se_St_has (c_St_has_n he) rfl rfl (Nat.le_of_ble_eq_true rfl) (by decide) (by decide) (Nat.le_refl _) (Nat.le_refl _) d_H_pair_29 (fun v h1 hp => ?_)
      obtain ⟨rfl, rfl⟩ := hp
      refine a_if_eqN X 46 (by omega) d_H_pair_32 (by decide) (fun c32 => ?_) (fun c32 => ?_)
      ·
        refine a_ldc2 X kc_H_123 d_H_pair_46 ?_
        exact a_lret X d_H_pair_49 (Nat.le_refl _) (Nat.le_refl _) ⟨rfl, rfl⟩
      ·
        exfalso
        omega
set_option maxHeartbeats 4000000 in
set_option maxRecDepth 20000 in
theorem c_H_pair_t {E : ab_E} {l : Launch} {r : hR} {s : hS} {w c : hW} {b : hB} {d : hD} {k : hK} {t : hT} {Z : List ab_C} {p j : Nat} {f x : Int32} (hn : r.2.2 ≤ 6) (hp : p + 1 < r.2.2) (hq : s.2.2 ≤ 4) (hj : j < s.2.2) (hf : f < 0 ∨ nI s.2.2 ≤ f) : ab_Con E l y_H_pair b_H_pair 5 (some .long) 6 138 [.ref 1, .int (nI p), .int (nI j), .int f, .int x] (hc r s w c b d k t ++ Z) 0 0 (fun v h1 => v = some (.long (-1)) ∧ h1 = hc r s w c b d k t ++ Z) := by
  refine ab_con (own := "HiddenRows") (ini := false) (by decide) (fun h => by cases h) rfl (Nat.le_of_ble_eq_true rfl) ?_
  intro G m X
  show ab_R E G m 5 0 0 0 [(0, .ref 1), (1, .int (nI p)), (2, .int (nI j)), (3, .int f), (4, .int x)] [] (hc r s w c b d k t ++ Z)
  refine a_aload_n X 0 d_H_pair_0 rfl rfl ?_
  refine a_get X ff_H_12 d_H_pair_1 hq_0 rfl ?_
  refine a_iload_n X 1 d_H_pair_4 rfl rfl ?_
  refine a_callV X (a := 1) (As := [.int _]) hq_1 rfl fb_Ro_has lk_H_114 im_Ro_has se_Ro_has (c_Ro_has_y (show p < r.2.2 by omega) hn) rfl rfl (Nat.le_of_ble_eq_true rfl) (by decide) (by decide) (Nat.le_refl _) (Nat.le_refl _) d_H_pair_5 (fun v h1 hp => ?_)
  obtain ⟨rfl, rfl⟩ := hp
  refine a_if_eqN X 46 (by omega) d_H_pair_8 (by decide) (fun c8 => ?_) (fun c8 => ?_)
  ·
    exfalso
    omega
  ·
    refine a_iload_n X 1 d_H_pair_11 rfl rfl ?_
    refine a_aload_n X 0 d_H_pair_12 rfl rfl ?_
    refine a_get X ff_H_12 d_H_pair_13 hq_0 rfl ?_
    refine a_get X ff_H_107 d_H_pair_16 hq_1 rfl ?_
    refine a_iconst X (v := nI 1) d_H_pair_19 (by decide) ?_
    refine a_isub X d_H_pair_20 ?_
    refine ab_topi (pk_sub (by omega)) ?_
    refine a_icmp_geN X 46 (by omega) (by omega) d_H_pair_21 (by decide) (fun c21 => ?_) (fun c21 => ?_)
    ·
      exfalso
      omega
    ·
      refine a_aload_n X 0 d_H_pair_24 rfl rfl ?_
      refine a_get X ff_H_19 d_H_pair_25 hq_0 rfl ?_
      refine a_iload_n X 2 d_H_pair_28 rfl rfl ?_
      refine a_callV X (a := 4) (As := [.int _]) hq_4 rfl fb_St_has lk_H_78 im_St_has se_St_has (c_St_has_y hj hq) rfl rfl (Nat.le_of_ble_eq_true rfl) (by decide) (by decide) (Nat.le_refl _) (Nat.le_refl _) d_H_pair_29 (fun v h1 hp => ?_)
      obtain ⟨rfl, rfl⟩ := hp
      refine a_if_eqN X 46 (by omega) d_H_pair_32 (by decide) (fun c32 => ?_) (fun c32 => ?_)
      ·
        exfalso
        omega
      ·
        refine a_aload_n X 0 d_H_pair_35 rfl rfl ?_
        refine a_get X ff_H_19 d_H_pair_36 hq_0 rfl ?_
        refine a_iload_n X 3 d_H_pair_39 rfl rfl ?_
        refine a_callV X (a := 4) (As := [.int _]) hq_4 rfl fb_St_has lk_H_78 im_St_has se_St_has (c_St_has_n hf) rfl rfl (Nat.le_of_ble_eq_true rfl) (by decide) (by decide) (Nat.le_refl _) (Nat.le_refl _) d_H_pair_40 (fun v h1 hp => ?_)
        obtain ⟨rfl, rfl⟩ := hp
        refine a_if_neN X 50 (by omega) d_H_pair_43 (by decide) (fun c43 => ?_) (fun c43 => ?_)
        ·
          exfalso
          omega
        ·
          refine a_ldc2 X kc_H_123 d_H_pair_46 ?_
          exact a_lret X d_H_pair_49 (Nat.le_refl _) (Nat.le_refl _) ⟨rfl, rfl⟩
set_option maxHeartbeats 4000000 in
set_option maxRecDepth 20000 in
theorem c_H_pair_x {E : ab_E} {l : Launch} {r : hR} {s : hS} {w c : hW} {b : hB} {d : hD} {k : hK} {t : hT} {Z : List ab_C} {p j z : Nat} {x : Int32} (hn : r.2.2 ≤ 6) (hp : p + 1 < r.2.2) (hq : s.2.2 ≤ 4) (hj : j < s.2.2) (hz : z < s.2.2) (hx : x ≠ 0 ∧ x ≠ nI 1) : ab_Con E l y_H_pair b_H_pair 5 (some .long) 6 138 [.ref 1, .int (nI p), .int (nI j), .int (nI z), .int x] (hc r s w c b d k t ++ Z) 0 0 (fun v h1 => v = some (.long (-2)) ∧ h1 = hc r s w c b d k t ++ Z) := by
  refine ab_con (own := "HiddenRows") (ini := false) (by decide) (fun h => by cases h) rfl (Nat.le_of_ble_eq_true rfl) ?_
  intro G m X
  show ab_R E G m 5 0 0 0 [(0, .ref 1), (1, .int (nI p)), (2, .int (nI j)), (3, .int (nI z)), (4, .int x)] [] (hc r s w c b d k t ++ Z)
  refine a_aload_n X 0 d_H_pair_0 rfl rfl ?_
  refine a_get X ff_H_12 d_H_pair_1 hq_0 rfl ?_
  refine a_iload_n X 1 d_H_pair_4 rfl rfl ?_
  refine a_callV X (a := 1) (As := [.int _]) hq_1 rfl fb_Ro_has lk_H_114 im_Ro_has se_Ro_has (c_Ro_has_y (show p < r.2.2 by omega) hn) rfl rfl (Nat.le_of_ble_eq_true rfl) (by decide) (by decide) (Nat.le_refl _) (Nat.le_refl _) d_H_pair_5 (fun v h1 hp => ?_)
  obtain ⟨rfl, rfl⟩ := hp
  refine a_if_eqN X 46 (by omega) d_H_pair_8 (by decide) (fun c8 => ?_) (fun c8 => ?_)
  ·
    exfalso
    omega
  ·
    refine a_iload_n X 1 d_H_pair_11 rfl rfl ?_
    refine a_aload_n X 0 d_H_pair_12 rfl rfl ?_
    refine a_get X ff_H_12 d_H_pair_13 hq_0 rfl ?_
    refine a_get X ff_H_107 d_H_pair_16 hq_1 rfl ?_
    refine a_iconst X (v := nI 1) d_H_pair_19 (by decide) ?_
    refine a_isub X d_H_pair_20 ?_
    refine ab_topi (pk_sub (by omega)) ?_
    refine a_icmp_geN X 46 (by omega) (by omega) d_H_pair_21 (by decide) (fun c21 => ?_) (fun c21 => ?_)
    ·
      exfalso
      omega
    ·
      refine a_aload_n X 0 d_H_pair_24 rfl rfl ?_
      refine a_get X ff_H_19 d_H_pair_25 hq_0 rfl ?_
      refine a_iload_n X 2 d_H_pair_28 rfl rfl ?_
      refine a_callV X (a := 4) (As := [.int _]) hq_4 rfl fb_St_has lk_H_78 im_St_has se_St_has (c_St_has_y hj hq) rfl rfl (Nat.le_of_ble_eq_true rfl) (by decide) (by decide) (Nat.le_refl _) (Nat.le_refl _) d_H_pair_29 (fun v h1 hp => ?_)
      obtain ⟨rfl, rfl⟩ := hp
      refine a_if_eqN X 46 (by omega) d_H_pair_32 (by decide) (fun c32 => ?_) (fun c32 => ?_)
      ·
        exfalso
        omega
      ·
        refine a_aload_n X 0 d_H_pair_35 rfl rfl ?_
        refine a_get X ff_H_19 d_H_pair_36 hq_0 rfl ?_
        refine a_iload_n X 3 d_H_pair_39 rfl rfl ?_
        refine a_callV X (a := 4) (As := [.int _]) hq_4 rfl fb_St_has lk_H_78 im_St_has se_St_has (c_St_has_y hz hq) rfl rfl (Nat.le_of_ble_eq_true rfl) (by decide) (by decide) (Nat.le_refl _) (Nat.le_refl _) d_H_pair_40 (fun v h1 hp => ?_)
        obtain ⟨rfl, rfl⟩ := hp
        refine a_if_neN X 50 (by omega) d_H_pair_43 (by decide) (fun c43 => ?_) (fun c43 => ?_)
        ·
          refine a_iload X d_H_pair_50 rfl ?_
          refine a_callS X (As := [.int _]) fb_H_isPart lk_H_125 sm_H_isPart (c_isP_n hx) rfl rfl (Nat.le_of_ble_eq_true rfl) (by decide) (by decide) (Nat.le_refl _) (Nat.le_refl _) d_H_pair_52 (fun v h1 hp => ?_)
          obtain ⟨rfl, rfl⟩ := hp
          refine a_if_neN X 62 (by omega) d_H_pair_55 (by decide) (fun c55 => ?_) (fun c55 => ?_)
          ·
            exfalso
            omega
          ·
            refine a_ldc2 X kc_H_128 d_H_pair_58 ?_
            exact a_lret X d_H_pair_61 (Nat.le_refl _) (Nat.le_refl _) ⟨rfl, rfl⟩
        ·
          exfalso
          omega
set_option maxHeartbeats 4000000 in
set_option maxRecDepth 20000 in
theorem c_H_trees_ok {E : ab_E} {l : Launch} {r : hR} {s : hS} {w c : hW} {b : hB} {d : hD} {k : hK} {t : hT} {Z : List ab_C} {kd : Nat} (hr : okR r) (hK : okK k) (hk : t.2.2.2.2.2.2.2 = 0 ∨ t.2.2.2.2.2.2.2 = 1 ∧ okT k r t.1 t.2.1 t.2.2.1) (hkd : kd < k.2.2) : ab_Con E l y_H_trees b_H_trees 2 (some .long) 5 122 [.ref 1, .int (nI kd)] (hc r s w c b d k t ++ Z) 0 0 (fun v h1 => ∃ su ct be : hG, okT k r su ct be ∧ (t.2.2.2.2.2.2.2 = 1 → su = t.1 ∧ ct = t.2.1 ∧ be = t.2.2.1) ∧ v = some (.long (lN (if r.2.2 = 0 then 0 else su kd (0 * 6 + (r.2.2 - 1))))) ∧ h1 = hc r s w c b d k (su, ct, be, t.2.2.2.1, t.2.2.2.2.1, t.2.2.2.2.2.1, t.2.2.2.2.2.2.1, 1) ++ Z) := by
  refine ab_con (own := "HiddenRows") (ini := false) (by decide) (fun h => by cases h) rfl (Nat.le_of_ble_eq_true rfl) ?_
  intro G m X
  show ab_R E G m 2 0 0 0 [(0, .ref 1), (1, .int (nI kd))] [] (hc r s w c b d k t ++ Z)
  refine a_aload_n X 0 d_H_trees_0 rfl rfl ?_
  refine a_get X ff_H_54 d_H_trees_1 hq_0 rfl ?_
  refine a_iload_n X 1 d_H_trees_4 rfl rfl ?_
  refine a_callV X (a := 169) (As := [.int _]) hq_169 rfl fb_Ki_has lk_H_96 im_Ki_has se_Ki_has (c_Ki_has_y hkd hK.1) rfl rfl (Nat.le_of_ble_eq_true rfl) (by decide) (by decide) (Nat.le_refl _) (Nat.le_refl _) d_H_trees_5 (fun v h1 hp => ?_)
  obtain ⟨rfl, rfl⟩ := hp
  refine a_if_eqN X 22 (by omega) d_H_trees_8 (by decide) (fun c8 => ?_) (fun c8 => ?_)
  ·
    exfalso
    omega
  ·
    refine a_aload_n X 0 d_H_trees_11 rfl rfl ?_
    refine a_get X ff_H_63 d_H_trees_12 hq_0 rfl ?_
    refine a_iload_n X 1 d_H_trees_15 rfl rfl ?_
    refine a_callV X (a := 180) (As := [.int (nI _)]) hq_180 rfl fb_Tt_sumOfAll lk_H_179 im_Tt_sumOfAll se_Tt_sumOfAll (c_soa (Nat.lt_of_lt_of_le hkd hK.1) hr hK hk) rfl rfl (Nat.le_of_ble_eq_true rfl) (by decide) (by decide) (Nat.le_refl _) (Nat.le_refl _) d_H_trees_16 (fun v h1 hp => ?_)
    obtain ⟨su, ct, be, hok, hsm, rfl, rfl⟩ := hp
    refine a_goto X 25 d_H_trees_19 (by decide) ?_
    exact a_lret X d_H_trees_25 (Nat.le_refl _) (Nat.le_refl _) ⟨su, ct, be, hok, hsm, rfl, rfl⟩
set_option maxHeartbeats 4000000 in
set_option maxRecDepth 20000 in
theorem c_H_trees_n {E : ab_E} {l : Launch} {r : hR} {s : hS} {w c : hW} {b : hB} {d : hD} {k : hK} {t : hT} {Z : List ab_C} {a : Int32} (ha : a < 0 ∨ nI k.2.2 ≤ a) : ab_Con E l y_H_trees b_H_trees 2 (some .long) 5 122 [.ref 1, .int a] (hc r s w c b d k t ++ Z) 0 0 (fun v h1 => v = some (.long (-1)) ∧ h1 = hc r s w c b d k t ++ Z) := by
  refine ab_con (own := "HiddenRows") (ini := false) (by decide) (fun h => by cases h) rfl (Nat.le_of_ble_eq_true rfl) ?_
  intro G m X
  show ab_R E G m 2 0 0 0 [(0, .ref 1), (1, .int a)] [] (hc r s w c b d k t ++ Z)
  refine a_aload_n X 0 d_H_trees_0 rfl rfl ?_
  refine a_get X ff_H_54 d_H_trees_1 hq_0 rfl ?_
  refine a_iload_n X 1 d_H_trees_4 rfl rfl ?_
  refine a_callV X (a := 169) (As := [.int _]) hq_169 rfl fb_Ki_has lk_H_96 im_Ki_has se_Ki_has (c_Ki_has_n ha) rfl rfl (Nat.le_of_ble_eq_true rfl) (by decide) (by decide) (Nat.le_refl _) (Nat.le_refl _) d_H_trees_5 (fun v h1 hp => ?_)
  obtain ⟨rfl, rfl⟩ := hp
  refine a_if_eqN X 22 (by omega) d_H_trees_8 (by decide) (fun c8 => ?_) (fun c8 => ?_)
  ·
    refine a_ldc2 X kc_H_123 d_H_trees_22 ?_
    exact a_lret X d_H_trees_25 (Nat.le_refl _) (Nat.le_refl _) ⟨rfl, rfl⟩
  ·
    exfalso
    omega
set_option maxHeartbeats 4000000 in
set_option maxRecDepth 20000 in
theorem c_H_treeCount_ok {E : ab_E} {l : Launch} {r : hR} {s : hS} {w c : hW} {b : hB} {d : hD} {k : hK} {t : hT} {Z : List ab_C} {kd : Nat} (hr : okR r) (hK : okK k) (hk : t.2.2.2.2.2.2.2 = 0 ∨ t.2.2.2.2.2.2.2 = 1 ∧ okT k r t.1 t.2.1 t.2.2.1) (hkd : kd < k.2.2) : ab_Con E l y_H_treeCount b_H_treeCount 2 (some .long) 5 122 [.ref 1, .int (nI kd)] (hc r s w c b d k t ++ Z) 0 0 (fun v h1 => ∃ su ct be : hG, okT k r su ct be ∧ (t.2.2.2.2.2.2.2 = 1 → su = t.1 ∧ ct = t.2.1 ∧ be = t.2.2.1) ∧ v = some (.long (lN (if r.2.2 = 0 then 0 else ct kd (0 * 6 + (r.2.2 - 1))))) ∧ h1 = hc r s w c b d k (su, ct, be, t.2.2.2.1, t.2.2.2.2.1, t.2.2.2.2.2.1, t.2.2.2.2.2.2.1, 1) ++ Z) := by
  refine ab_con (own := "HiddenRows") (ini := false) (by decide) (fun h => by cases h) rfl (Nat.le_of_ble_eq_true rfl) ?_
  intro G m X
  show ab_R E G m 2 0 0 0 [(0, .ref 1), (1, .int (nI kd))] [] (hc r s w c b d k t ++ Z)
  refine a_aload_n X 0 d_H_treeCount_0 rfl rfl ?_
  refine a_get X ff_H_54 d_H_treeCount_1 hq_0 rfl ?_
  refine a_iload_n X 1 d_H_treeCount_4 rfl rfl ?_
  refine a_callV X (a := 169) (As := [.int _]) hq_169 rfl fb_Ki_has lk_H_96 im_Ki_has se_Ki_has (c_Ki_has_y hkd hK.1) rfl rfl (Nat.le_of_ble_eq_true rfl) (by decide) (by decide) (Nat.le_refl _) (Nat.le_refl _) d_H_treeCount_5 (fun v h1 hp => ?_)
  obtain ⟨rfl, rfl⟩ := hp
  refine a_if_eqN X 22 (by omega) d_H_treeCount_8 (by decide) (fun c8 => ?_) (fun c8 => ?_)
  ·
    exfalso
    omega
  ·
    refine a_aload_n X 0 d_H_treeCount_11 rfl rfl ?_
    refine a_get X ff_H_63 d_H_treeCount_12 hq_0 rfl ?_
    refine a_iload_n X 1 d_H_treeCount_15 rfl rfl ?_
    refine a_callV X (a := 180) (As := [.int (nI _)]) hq_180 rfl fb_Tt_countOfAll lk_H_182 im_Tt_countOfAll se_Tt_countOfAll (c_coa (Nat.lt_of_lt_of_le hkd hK.1) hr hK hk) rfl rfl (Nat.le_of_ble_eq_true rfl) (by decide) (by decide) (Nat.le_refl _) (Nat.le_refl _) d_H_treeCount_16 (fun v h1 hp => ?_)
    obtain ⟨su, ct, be, hok, hsm, rfl, rfl⟩ := hp
    refine a_goto X 25 d_H_treeCount_19 (by decide) ?_
    exact a_lret X d_H_treeCount_25 (Nat.le_refl _) (Nat.le_refl _) ⟨su, ct, be, hok, hsm, rfl, rfl⟩
set_option maxHeartbeats 4000000 in
set_option maxRecDepth 20000 in
theorem c_H_treeCount_n {E : ab_E} {l : Launch} {r : hR} {s : hS} {w c : hW} {b : hB} {d : hD} {k : hK} {t : hT} {Z : List ab_C} {a : Int32} (ha : a < 0 ∨ nI k.2.2 ≤ a) : ab_Con E l y_H_treeCount b_H_treeCount 2 (some .long) 5 122 [.ref 1, .int a] (hc r s w c b d k t ++ Z) 0 0 (fun v h1 => v = some (.long (-1)) ∧ h1 = hc r s w c b d k t ++ Z) := by
  refine ab_con (own := "HiddenRows") (ini := false) (by decide) (fun h => by cases h) rfl (Nat.le_of_ble_eq_true rfl) ?_
  intro G m X
  show ab_R E G m 2 0 0 0 [(0, .ref 1), (1, .int a)] [] (hc r s w c b d k t ++ Z)
  refine a_aload_n X 0 d_H_treeCount_0 rfl rfl ?_
  refine a_get X ff_H_54 d_H_treeCount_1 hq_0 rfl ?_
  refine a_iload_n X 1 d_H_treeCount_4 rfl rfl ?_
  refine a_callV X (a := 169) (As := [.int _]) hq_169 rfl fb_Ki_has lk_H_96 im_Ki_has se_Ki_has (c_Ki_has_n ha) rfl rfl (Nat.le_of_ble_eq_true rfl) (by decide) (by decide) (Nat.le_refl _) (Nat.le_refl _) d_H_treeCount_5 (fun v h1 hp => ?_)
  obtain ⟨rfl, rfl⟩ := hp
  refine a_if_eqN X 22 (by omega) d_H_treeCount_8 (by decide) (fun c8 => ?_) (fun c8 => ?_)
  ·
    refine a_ldc2 X kc_H_123 d_H_treeCount_22 ?_
    exact a_lret X d_H_treeCount_25 (Nat.le_refl _) (Nat.le_refl _) ⟨rfl, rfl⟩
  ·
    exfalso
    omega
set_option maxHeartbeats 4000000 in
set_option maxRecDepth 20000 in
theorem c_H_treeBest_ok {E : ab_E} {l : Launch} {r : hR} {s : hS} {w c : hW} {b : hB} {d : hD} {k : hK} {t : hT} {Z : List ab_C} {kd : Nat} (hr : okR r) (hK : okK k) (hk : t.2.2.2.2.2.2.2 = 0 ∨ t.2.2.2.2.2.2.2 = 1 ∧ okT k r t.1 t.2.1 t.2.2.1) (hkd : kd < k.2.2) (hsb : ∀ su ct be, okT k r su ct be → (if r.2.2 = 0 then 0 else su kd (0 * 6 + (r.2.2 - 1))) < 2 ^ 63) : ab_Con E l y_H_treeBest b_H_treeBest 2 (some .long) 5 122 [.ref 1, .int (nI kd)] (hc r s w c b d k t ++ Z) 0 0 (fun v h1 => ∃ su ct be : hG, okT k r su ct be ∧ (t.2.2.2.2.2.2.2 = 1 → su = t.1 ∧ ct = t.2.1 ∧ be = t.2.2.1) ∧ v = some (.long (if (if r.2.2 = 0 then 0 else su kd (0 * 6 + (r.2.2 - 1))) = 0 then -3 else lN (if r.2.2 = 0 then 0 else be kd (0 * 6 + (r.2.2 - 1))))) ∧ h1 = hc r s w c b d k (su, ct, be, t.2.2.2.1, t.2.2.2.2.1, t.2.2.2.2.2.1, t.2.2.2.2.2.2.1, 1) ++ Z) := by
  refine ab_con (own := "HiddenRows") (ini := false) (by decide) (fun h => by cases h) rfl (Nat.le_of_ble_eq_true rfl) ?_
  intro G m X
  show ab_R E G m 2 0 0 0 [(0, .ref 1), (1, .int (nI kd))] [] (hc r s w c b d k t ++ Z)
  refine a_aload_n X 0 d_H_treeBest_0 rfl rfl ?_
  refine a_get X ff_H_54 d_H_treeBest_1 hq_0 rfl ?_
  refine a_iload_n X 1 d_H_treeBest_4 rfl rfl ?_
  refine a_callV X (a := 169) (As := [.int _]) hq_169 rfl fb_Ki_has lk_H_96 im_Ki_has se_Ki_has (c_Ki_has_y hkd hK.1) rfl rfl (Nat.le_of_ble_eq_true rfl) (by decide) (by decide) (Nat.le_refl _) (Nat.le_refl _) d_H_treeBest_5 (fun v h1 hp => ?_)
  obtain ⟨rfl, rfl⟩ := hp
  refine a_if_neN X 15 (by omega) d_H_treeBest_8 (by decide) (fun c8 => ?_) (fun c8 => ?_)
  ·
    refine a_aload_n X 0 d_H_treeBest_15 rfl rfl ?_
    refine a_get X ff_H_63 d_H_treeBest_16 hq_0 rfl ?_
    refine a_iload_n X 1 d_H_treeBest_19 rfl rfl ?_
    refine a_callV X (a := 180) (As := [.int (nI _)]) hq_180 rfl fb_Tt_sumOfAll lk_H_179 im_Tt_sumOfAll se_Tt_sumOfAll (c_soa (Nat.lt_of_lt_of_le hkd hK.1) hr hK hk) rfl rfl (Nat.le_of_ble_eq_true rfl) (by decide) (by decide) (Nat.le_refl _) (Nat.le_refl _) d_H_treeBest_20 (fun v h1 hp => ?_)
    obtain ⟨su, ct, be, hok, hsm, rfl, rfl⟩ := hp
    refine a_lconst X (v := lN 0) d_H_treeBest_23 (by decide) ?_
    refine a_lc_le X 39 (hsb su ct be hok) (by omega) d_H_treeBest_24 d_H_treeBest_25 (by decide) (fun c24 => ?_) (fun c24 => ?_)
    ·
      refine a_ldc2 X kc_H_157 d_H_treeBest_39 ?_
      exact a_lret X d_H_treeBest_42 (Nat.le_refl _) (Nat.le_refl _) ⟨su, ct, be, hok, hsm, by first | rw [if_pos (Nat.le_zero.mp c24)] | rw [if_neg (Nat.ne_of_gt c24)], rfl⟩
    ·
      refine a_aload_n X 0 d_H_treeBest_28 rfl rfl ?_
      refine a_get X ff_H_63 d_H_treeBest_29 hq_0 rfl ?_
      refine a_iload_n X 1 d_H_treeBest_32 rfl rfl ?_
      refine a_callV X (a := 180) (As := [.int (nI _)]) hq_180 rfl fb_Tt_bestOfAll lk_H_185 im_Tt_bestOfAll se_Tt_bestOfAll (c_boa (Nat.lt_of_lt_of_le hkd hK.1) hr hK (Or.inr ⟨rfl, hok⟩)) rfl rfl (Nat.le_of_ble_eq_true rfl) (by decide) (by decide) (Nat.le_refl _) (Nat.le_refl _) d_H_treeBest_33 (fun v h1 hp => ?_)
      obtain ⟨su2, ct2, be2, hok2, hsm2, rfl, rfl⟩ := hp
      obtain ⟨e1, e2, e3⟩ := hsm2 rfl
      have e1 : su2 = su := e1
      have e2 : ct2 = ct := e2
      have e3 : be2 = be := e3
      obtain rfl := e1.symm
      obtain rfl := e2.symm
      obtain rfl := e3.symm
      refine a_goto X 42 d_H_treeBest_36 (by decide) ?_
      exact a_lret X d_H_treeBest_42 (Nat.le_refl _) (Nat.le_refl _) ⟨su, ct, be, hok, hsm, by first | rw [if_pos (Nat.le_zero.mp c24)] | rw [if_neg (Nat.ne_of_gt c24)], rfl⟩
  ·
    exfalso
    omega
set_option maxHeartbeats 4000000 in
set_option maxRecDepth 20000 in
theorem c_H_treeBest_n {E : ab_E} {l : Launch} {r : hR} {s : hS} {w c : hW} {b : hB} {d : hD} {k : hK} {t : hT} {Z : List ab_C} {a : Int32} (ha : a < 0 ∨ nI k.2.2 ≤ a) : ab_Con E l y_H_treeBest b_H_treeBest 2 (some .long) 5 122 [.ref 1, .int a] (hc r s w c b d k t ++ Z) 0 0 (fun v h1 => v = some (.long (-1)) ∧ h1 = hc r s w c b d k t ++ Z) := by
  refine ab_con (own := "HiddenRows") (ini := false) (by decide) (fun h => by cases h) rfl (Nat.le_of_ble_eq_true rfl) ?_
  intro G m X
  show ab_R E G m 2 0 0 0 [(0, .ref 1), (1, .int a)] [] (hc r s w c b d k t ++ Z)
  refine a_aload_n X 0 d_H_treeBest_0 rfl rfl ?_
  refine a_get X ff_H_54 d_H_treeBest_1 hq_0 rfl ?_
  refine a_iload_n X 1 d_H_treeBest_4 rfl rfl ?_
  refine a_callV X (a := 169) (As := [.int _]) hq_169 rfl fb_Ki_has lk_H_96 im_Ki_has se_Ki_has (c_Ki_has_n ha) rfl rfl (Nat.le_of_ble_eq_true rfl) (by decide) (by decide) (Nat.le_refl _) (Nat.le_refl _) d_H_treeBest_5 (fun v h1 hp => ?_)
  obtain ⟨rfl, rfl⟩ := hp
  refine a_if_neN X 15 (by omega) d_H_treeBest_8 (by decide) (fun c8 => ?_) (fun c8 => ?_)
  ·
    exfalso
    omega
  ·
    refine a_ldc2 X kc_H_123 d_H_treeBest_11 ?_
    exact a_lret X d_H_treeBest_14 (Nat.le_refl _) (Nat.le_refl _) ⟨rfl, rfl⟩
set_option maxHeartbeats 4000000 in
set_option maxRecDepth 20000 in
theorem c_H_treeAt_n {E : ab_E} {l : Launch} {r : hR} {s : hS} {w c : hW} {b : hB} {d : hD} {k : hK} {t : hT} {Z : List ab_C} {a e : Int32} (ha : a < 0 ∨ nI k.2.2 ≤ a) : ab_Con E l y_H_treeAt b_H_treeAt 3 (some .int) 5 125 [.ref 1, .int a, .int e] (hc r s w c b d k t ++ Z) 0 0 (fun v h1 => v = some (.int (-1)) ∧ h1 = hc r s w c b d k t ++ Z) := by
  refine ab_con (own := "HiddenRows") (ini := false) (by decide) (fun h => by cases h) rfl (Nat.le_of_ble_eq_true rfl) ?_
  intro G m X
  show ab_R E G m 3 0 0 0 [(0, .ref 1), (1, .int a), (2, .int e)] [] (hc r s w c b d k t ++ Z)
  refine a_aload_n X 0 d_H_treeAt_0 rfl rfl ?_
  refine a_get X ff_H_54 d_H_treeAt_1 hq_0 rfl ?_
  refine a_iload_n X 1 d_H_treeAt_4 rfl rfl ?_
  refine a_callV X (a := 169) (As := [.int _]) hq_169 rfl fb_Ki_has lk_H_96 im_Ki_has se_Ki_has (c_Ki_has_n ha) rfl rfl (Nat.le_of_ble_eq_true rfl) (by decide) (by decide) (Nat.le_refl _) (Nat.le_refl _) d_H_treeAt_5 (fun v h1 hp => ?_)
  obtain ⟨rfl, rfl⟩ := hp
  refine a_if_neN X 13 (by omega) d_H_treeAt_8 (by decide) (fun c8 => ?_) (fun c8 => ?_)
  ·
    exfalso
    omega
  ·
    refine a_iconst X (v := -1) d_H_treeAt_11 (by decide) ?_
    exact a_iret X d_H_treeAt_12 (Nat.le_refl _) (Nat.le_refl _) ⟨rfl, rfl⟩
set_option maxHeartbeats 4000000 in
set_option maxRecDepth 20000 in
theorem c_H_treeAt_0 {E : ab_E} {l : Launch} {r : hR} {s : hS} {w c : hW} {b : hB} {d : hD} {k : hK} {t : hT} {Z : List ab_C} {kd : Nat} {e : Int32} (hr : okR r) (hK : okK k) (hk : t.2.2.2.2.2.2.2 = 0 ∨ t.2.2.2.2.2.2.2 = 1 ∧ okT k r t.1 t.2.1 t.2.2.1) (hkd : kd < k.2.2) (hsb : ∀ su ct be, okT k r su ct be → (if r.2.2 = 0 then 0 else su kd (0 * 6 + (r.2.2 - 1))) < 2 ^ 63) (h0 : ∀ su ct be, okT k r su ct be → (if r.2.2 = 0 then 0 else su kd (0 * 6 + (r.2.2 - 1))) = 0) : ab_Con E l y_H_treeAt b_H_treeAt 3 (some .int) 5 125 [.ref 1, .int (nI kd), .int e] (hc r s w c b d k t ++ Z) 0 0 (fun v h1 => ∃ su ct be : hG, okT k r su ct be ∧ (t.2.2.2.2.2.2.2 = 1 → su = t.1 ∧ ct = t.2.1 ∧ be = t.2.2.1) ∧ v = some (.int (-3)) ∧ h1 = hc r s w c b d k (su, ct, be, t.2.2.2.1, t.2.2.2.2.1, t.2.2.2.2.2.1, t.2.2.2.2.2.2.1, 1) ++ Z) := by
  refine ab_con (own := "HiddenRows") (ini := false) (by decide) (fun h => by cases h) rfl (Nat.le_of_ble_eq_true rfl) ?_
  intro G m X
  show ab_R E G m 3 0 0 0 [(0, .ref 1), (1, .int (nI kd)), (2, .int e)] [] (hc r s w c b d k t ++ Z)
  refine a_aload_n X 0 d_H_treeAt_0 rfl rfl ?_
  refine a_get X ff_H_54 d_H_treeAt_1 hq_0 rfl ?_
  refine a_iload_n X 1 d_H_treeAt_4 rfl rfl ?_
  refine a_callV X (a := 169) (As := [.int _]) hq_169 rfl fb_Ki_has lk_H_96 im_Ki_has se_Ki_has (c_Ki_has_y hkd hK.1) rfl rfl (Nat.le_of_ble_eq_true rfl) (by decide) (by decide) (Nat.le_refl _) (Nat.le_refl _) d_H_treeAt_5 (fun v h1 hp => ?_)
  obtain ⟨rfl, rfl⟩ := hp
  refine a_if_neN X 13 (by omega) d_H_treeAt_8 (by decide) (fun c8 => ?_) (fun c8 => ?_)
  ·
    refine a_aload_n X 0 d_H_treeAt_13 rfl rfl ?_
    refine a_get X ff_H_63 d_H_treeAt_14 hq_0 rfl ?_
    refine a_iload_n X 1 d_H_treeAt_17 rfl rfl ?_
    refine a_callV X (a := 180) (As := [.int (nI _)]) hq_180 rfl fb_Tt_sumOfAll lk_H_179 im_Tt_sumOfAll se_Tt_sumOfAll (c_soa (Nat.lt_of_lt_of_le hkd hK.1) hr hK hk) rfl rfl (Nat.le_of_ble_eq_true rfl) (by decide) (by decide) (Nat.le_refl _) (Nat.le_refl _) d_H_treeAt_18 (fun v h1 hp => ?_)
    obtain ⟨su, ct, be, hok, hsm, rfl, rfl⟩ := hp
    refine a_lconst X (v := lN 0) d_H_treeAt_21 (by decide) ?_
    refine a_lc_gt X 29 (hsb su ct be hok) (by omega) d_H_treeAt_22 d_H_treeAt_23 (by decide) (fun c22 => ?_) (fun c22 => ?_)
    ·
      exact absurd c22 (by rw [h0 su ct be hok]; omega)
    ·
      refine a_bipush X (v := -3) d_H_treeAt_26 (by decide) ?_
      exact a_iret X d_H_treeAt_28 (Nat.le_refl _) (Nat.le_refl _) ⟨su, ct, be, hok, hsm, rfl, rfl⟩
  ·
    exfalso
    omega
set_option maxHeartbeats 4000000 in
set_option maxRecDepth 20000 in
theorem c_H_treeAt_x {E : ab_E} {l : Launch} {r : hR} {s : hS} {w c : hW} {b : hB} {d : hD} {k : hK} {t : hT} {Z : List ab_C} {kd : Nat} {e : Int32} (hr : okR r) (hK : okK k) (hk : t.2.2.2.2.2.2.2 = 0 ∨ t.2.2.2.2.2.2.2 = 1 ∧ okT k r t.1 t.2.1 t.2.2.1) (hkd : kd < k.2.2) (hsb : ∀ su ct be, okT k r su ct be → (if r.2.2 = 0 then 0 else su kd (0 * 6 + (r.2.2 - 1))) < 2 ^ 63) (h0 : ∀ su ct be, okT k r su ct be → 0 < (if r.2.2 = 0 then 0 else su kd (0 * 6 + (r.2.2 - 1)))) (hn0 : 0 < r.2.2) (he : e < 0 ∨ nI (2 * r.2.2 - 1) ≤ e) : ab_Con E l y_H_treeAt b_H_treeAt 3 (some .int) 5 125 [.ref 1, .int (nI kd), .int e] (hc r s w c b d k t ++ Z) 0 0 (fun v h1 => ∃ su ct be : hG, okT k r su ct be ∧ (t.2.2.2.2.2.2.2 = 1 → su = t.1 ∧ ct = t.2.1 ∧ be = t.2.2.1) ∧ v = some (.int (-1)) ∧ h1 = hc r s w c b d k (su, ct, be, t.2.2.2.1, t.2.2.2.2.1, t.2.2.2.2.2.1, t.2.2.2.2.2.2.1, 1) ++ Z) := by
  have hn := hr.1
  refine ab_con (own := "HiddenRows") (ini := false) (by decide) (fun h => by cases h) rfl (Nat.le_of_ble_eq_true rfl) ?_
  intro G m X
  show ab_R E G m 3 0 0 0 [(0, .ref 1), (1, .int (nI kd)), (2, .int e)] [] (hc r s w c b d k t ++ Z)
  refine a_aload_n X 0 d_H_treeAt_0 rfl rfl ?_
  refine a_get X ff_H_54 d_H_treeAt_1 hq_0 rfl ?_
  refine a_iload_n X 1 d_H_treeAt_4 rfl rfl ?_
  refine a_callV X (a := 169) (As := [.int _]) hq_169 rfl fb_Ki_has lk_H_96 im_Ki_has se_Ki_has (c_Ki_has_y hkd hK.1) rfl rfl (Nat.le_of_ble_eq_true rfl) (by decide) (by decide) (Nat.le_refl _) (Nat.le_refl _) d_H_treeAt_5 (fun v h1 hp => ?_)
  obtain ⟨rfl, rfl⟩ := hp
  refine a_if_neN X 13 (by omega) d_H_treeAt_8 (by decide) (fun c8 => ?_) (fun c8 => ?_)
  ·
    refine a_aload_n X 0 d_H_treeAt_13 rfl rfl ?_
    refine a_get X ff_H_63 d_H_treeAt_14 hq_0 rfl ?_
    refine a_iload_n X 1 d_H_treeAt_17 rfl rfl ?_
    refine a_callV X (a := 180) (As := [.int (nI _)]) hq_180 rfl fb_Tt_sumOfAll lk_H_179 im_Tt_sumOfAll se_Tt_sumOfAll (c_soa (Nat.lt_of_lt_of_le hkd hK.1) hr hK hk) rfl rfl (Nat.le_of_ble_eq_true rfl) (by decide) (by decide) (Nat.le_refl _) (Nat.le_refl _) d_H_treeAt_18 (fun v h1 hp => ?_)
    obtain ⟨su, ct, be, hok, hsm, rfl, rfl⟩ := hp
    refine a_lconst X (v := lN 0) d_H_treeAt_21 (by decide) ?_
    refine a_lc_gt X 29 (hsb su ct be hok) (by omega) d_H_treeAt_22 d_H_treeAt_23 (by decide) (fun c22 => ?_) (fun c22 => ?_)
    ·
      refine a_iload_n X 2 d_H_treeAt_29 rfl rfl ?_
      refine a_if_lt X 48 d_H_treeAt_30 (by decide) (fun c30 => ?_) (fun c30 => ?_)
      ·
        refine a_iconst X (v := -1) d_H_treeAt_48 (by decide) ?_
        exact a_iret X d_H_treeAt_49 (Nat.le_refl _) (Nat.le_refl _) ⟨su, ct, be, hok, hsm, rfl, rfl⟩
      ·
        refine a_iload_n X 2 d_H_treeAt_33 rfl rfl ?_
        refine a_iconst X (v := nI 2) d_H_treeAt_34 (by decide) ?_
        refine a_aload_n X 0 d_H_treeAt_35 rfl rfl ?_
        refine a_get X ff_H_12 d_H_treeAt_36 hq_0 rfl ?_
        refine a_get X ff_H_107 d_H_treeAt_39 hq_1 rfl ?_
        refine a_imul X d_H_treeAt_42 ?_
        refine ab_topi (pk_mul _ _) ?_
        refine a_iconst X (v := nI 1) d_H_treeAt_43 (by decide) ?_
        refine a_isub X d_H_treeAt_44 ?_
        refine ab_topi (pk_sub (by omega)) ?_
        refine a_icmp_lt X 50 d_H_treeAt_45 (by decide) (fun c45 => ?_) (fun c45 => ?_)
        ·
          exfalso
          rcases he with q | q
          · exact c30 q
          · exact Int32.not_lt.mpr q c45
        ·
          refine a_iconst X (v := -1) d_H_treeAt_48 (by decide) ?_
          exact a_iret X d_H_treeAt_49 (Nat.le_refl _) (Nat.le_refl _) ⟨su, ct, be, hok, hsm, rfl, rfl⟩
    ·
      exact absurd c22 (Nat.not_le.mpr (h0 su ct be hok))
  ·
    exfalso
    omega
set_option maxHeartbeats 4000000 in
set_option maxRecDepth 20000 in
theorem c_H_treeAt_ok {E : ab_E} {l : Launch} {r : hR} {s : hS} {w c : hW} {b : hB} {d : hD} {k : hK} {t : hT} {Z : List ab_C} {kd num : Nat} (hr : okR r) (hK : okK k) (hk : t.2.2.2.2.2.2.2 = 0 ∨ t.2.2.2.2.2.2.2 = 1 ∧ okT k r t.1 t.2.1 t.2.2.1) (hkd : kd < k.2.2) (hsb : ∀ su ct be, okT k r su ct be → (if r.2.2 = 0 then 0 else su kd (0 * 6 + (r.2.2 - 1))) < 2 ^ 63) (h0 : ∀ su ct be, okT k r su ct be → 0 < (if r.2.2 = 0 then 0 else su kd (0 * 6 + (r.2.2 - 1)))) (hn0 : 0 < r.2.2) (hnum : num < 2 * r.2.2 - 1) (hbe : ∀ su ct be, okT k r su ct be → 0 < be kd (0 * 6 + (r.2.2 - 1))) : ab_Con E l y_H_treeAt b_H_treeAt 3 (some .int) 5 125 [.ref 1, .int (nI kd), .int (nI num)] (hc r s w c b d k t ++ Z) 0 0 (fun v h1 => ∃ su ct be : hG, okT k r su ct be ∧ (t.2.2.2.2.2.2.2 = 1 → su = t.1 ∧ ct = t.2.1 ∧ be = t.2.2.1) ∧ ∃ val, tellsAt k be num [(kd, 0, r.2.2 - 1)] val ∧ v = some (.int (nI val)) ∧ ∃ wk wp wt, h1 = hc r s w c b d k (su, ct, be, t.2.2.2.1, wk, wp, wt, 1) ++ Z) := by
  have hn := hr.1
  refine ab_con (own := "HiddenRows") (ini := false) (by decide) (fun h => by cases h) rfl (Nat.le_of_ble_eq_true rfl) ?_
  intro G m X
  show ab_R E G m 3 0 0 0 [(0, .ref 1), (1, .int (nI kd)), (2, .int (nI num))] [] (hc r s w c b d k t ++ Z)
  refine a_aload_n X 0 d_H_treeAt_0 rfl rfl ?_
  refine a_get X ff_H_54 d_H_treeAt_1 hq_0 rfl ?_
  refine a_iload_n X 1 d_H_treeAt_4 rfl rfl ?_
  refine a_callV X (a := 169) (As := [.int _]) hq_169 rfl fb_Ki_has lk_H_96 im_Ki_has se_Ki_has (c_Ki_has_y hkd hK.1) rfl rfl (Nat.le_of_ble_eq_true rfl) (by decide) (by decide) (Nat.le_refl _) (Nat.le_refl _) d_H_treeAt_5 (fun v h1 hp => ?_)
  obtain ⟨rfl, rfl⟩ := hp
  refine a_if_neN X 13 (by omega) d_H_treeAt_8 (by decide) (fun c8 => ?_) (fun c8 => ?_)
  ·
    refine a_aload_n X 0 d_H_treeAt_13 rfl rfl ?_
    refine a_get X ff_H_63 d_H_treeAt_14 hq_0 rfl ?_
    refine a_iload_n X 1 d_H_treeAt_17 rfl rfl ?_
    refine a_callV X (a := 180) (As := [.int (nI _)]) hq_180 rfl fb_Tt_sumOfAll lk_H_179 im_Tt_sumOfAll se_Tt_sumOfAll (c_soa (Nat.lt_of_lt_of_le hkd hK.1) hr hK hk) rfl rfl (Nat.le_of_ble_eq_true rfl) (by decide) (by decide) (Nat.le_refl _) (Nat.le_refl _) d_H_treeAt_18 (fun v h1 hp => ?_)
    obtain ⟨su, ct, be, hok, hsm, rfl, rfl⟩ := hp
    refine a_lconst X (v := lN 0) d_H_treeAt_21 (by decide) ?_
    refine a_lc_gt X 29 (hsb su ct be hok) (by omega) d_H_treeAt_22 d_H_treeAt_23 (by decide) (fun c22 => ?_) (fun c22 => ?_)
    ·
      refine a_iload_n X 2 d_H_treeAt_29 rfl rfl ?_
      refine a_if_ltN X 48 (by omega) d_H_treeAt_30 (by decide) ?_
      refine a_iload_n X 2 d_H_treeAt_33 rfl rfl ?_
      refine a_iconst X (v := nI 2) d_H_treeAt_34 (by decide) ?_
      refine a_aload_n X 0 d_H_treeAt_35 rfl rfl ?_
      refine a_get X ff_H_12 d_H_treeAt_36 hq_0 rfl ?_
      refine a_get X ff_H_107 d_H_treeAt_39 hq_1 rfl ?_
      refine a_imul X d_H_treeAt_42 ?_
      refine ab_topi (pk_mul _ _) ?_
      refine a_iconst X (v := nI 1) d_H_treeAt_43 (by decide) ?_
      refine a_isub X d_H_treeAt_44 ?_
      refine ab_topi (pk_sub (by omega)) ?_
      refine a_icmp_ltN X 50 (by omega) (by omega) d_H_treeAt_45 (by decide) (fun c45 => ?_) (fun c45 => ?_)
      ·
        refine a_aload_n X 0 d_H_treeAt_50 rfl rfl ?_
        refine a_get X ff_H_63 d_H_treeAt_51 hq_0 rfl ?_
        refine a_iload_n X 1 d_H_treeAt_54 rfl rfl ?_
        refine a_iload_n X 2 d_H_treeAt_55 rfl rfl ?_
        refine a_callV X (a := 180) (As := [.int (nI _), .int (nI _)]) hq_180 rfl fb_Tt_bestTells lk_H_188 im_Tt_bestTells se_Tt_bestTells (c_bte hr hK (Or.inr ⟨rfl, hok⟩) hkd hn0 hnum hbe) rfl rfl (Nat.le_of_ble_eq_true rfl) (by decide) (by decide) (Nat.le_refl _) (Nat.le_refl _) d_H_treeAt_56 (fun v h1 hp => ?_)
        obtain ⟨su2, ct2, be2, hok2, hsm2, val, hval, rfl, wk, wp, wt, rfl⟩ := hp
        obtain ⟨e1, e2, e3⟩ := hsm2 rfl
        have e1 : su2 = su := e1
        have e2 : ct2 = ct := e2
        have e3 : be2 = be := e3
        obtain rfl := e1.symm
        obtain rfl := e2.symm
        obtain rfl := e3.symm
        exact a_iret X d_H_treeAt_59 (Nat.le_refl _) (Nat.le_refl _) ⟨su, ct, be, hok, hsm, val, hval, rfl, wk, wp, wt, rfl⟩
      ·
        exfalso
        omega
    ·
      exact absurd c22 (Nat.not_le.mpr (h0 su ct be hok))
  ·
    exfalso
    omega
set_option maxHeartbeats 4000000 in
set_option maxRecDepth 20000 in
theorem c_H_span_ok {E : ab_E} {l : Launch} {r : hR} {s : hS} {w c : hW} {b : hB} {d : hD} {k : hK} {t : hT} {Z : List ab_C} {kd wn i j pt : Nat} (hr : okR r) (hK : okK k) (hk : t.2.2.2.2.2.2.2 = 0 ∨ t.2.2.2.2.2.2.2 = 1 ∧ okT k r t.1 t.2.1 t.2.2.1) (hkd : kd < k.2.2) (hwn : wn < k.2.2) (hi : i < r.2.2) (hj : j < r.2.2) (hij : i ≤ j) (hpt : pt ≤ 1) (hsb : ∀ su ct be, okT k r su ct be → (if r.2.2 = 0 then 0 else su kd (0 * 6 + (r.2.2 - 1))) < 2 ^ 63) (hA : ∀ su ct be ha, okT k r su ct be → invH k r.2.2 su ha wn i j (fun _ _ => True) → ha kd (0 * 6 + (r.2.2 - 1)) < 2 ^ 63) : ab_Con E l y_H_span b_H_span 6 (some .long) 5 128 [.ref 1, .int (nI kd), .int (nI wn), .int (nI i), .int (nI j), .int (nI pt)] (hc r s w c b d k t ++ Z) 0 0 (fun v h1 => ∃ su ct be ha : hG, okT k r su ct be ∧ (t.2.2.2.2.2.2.2 = 1 → su = t.1 ∧ ct = t.2.1 ∧ be = t.2.2.1) ∧ invH k r.2.2 su ha wn i j (fun _ _ => True) ∧ v = some (.long (lowR (ha kd (0 * 6 + (r.2.2 - 1))) (if r.2.2 = 0 then 0 else su kd (0 * 6 + (r.2.2 - 1))) pt)) ∧ h1 = hc r s w c b d k (su, ct, be, ha, t.2.2.2.2.1, t.2.2.2.2.2.1, t.2.2.2.2.2.2.1, 1) ++ Z) := by
  have hn := hr.1
  refine ab_con (own := "HiddenRows") (ini := false) (by decide) (fun h => by cases h) rfl (Nat.le_of_ble_eq_true rfl) ?_
  intro G m X
  show ab_R E G m 6 0 0 0 [(0, .ref 1), (1, .int (nI kd)), (2, .int (nI wn)), (3, .int (nI i)), (4, .int (nI j)), (5, .int (nI pt))] [] (hc r s w c b d k t ++ Z)
  refine a_aload_n X 0 d_H_span_0 rfl rfl ?_
  refine a_get X ff_H_54 d_H_span_1 hq_0 rfl ?_
  refine a_iload_n X 1 d_H_span_4 rfl rfl ?_
  refine a_callV X (a := 169) (As := [.int _]) hq_169 rfl fb_Ki_has lk_H_96 im_Ki_has se_Ki_has (c_Ki_has_y hkd hK.1) rfl rfl (Nat.le_of_ble_eq_true rfl) (by decide) (by decide) (Nat.le_refl _) (Nat.le_refl _) d_H_span_5 (fun v h1 hp => ?_)
  obtain ⟨rfl, rfl⟩ := hp
  refine a_if_eqN X 51 (by omega) d_H_span_8 (by decide) (fun c8 => ?_) (fun c8 => ?_)
  ·
    exfalso
    omega
  ·
    refine a_aload_n X 0 d_H_span_11 rfl rfl ?_
    refine a_get X ff_H_54 d_H_span_12 hq_0 rfl ?_
    refine a_iload_n X 2 d_H_span_15 rfl rfl ?_
    refine a_callV X (a := 169) (As := [.int _]) hq_169 rfl fb_Ki_has lk_H_96 im_Ki_has se_Ki_has (c_Ki_has_y hwn hK.1) rfl rfl (Nat.le_of_ble_eq_true rfl) (by decide) (by decide) (Nat.le_refl _) (Nat.le_refl _) d_H_span_16 (fun v h1 hp => ?_)
    obtain ⟨rfl, rfl⟩ := hp
    refine a_if_eqN X 51 (by omega) d_H_span_19 (by decide) (fun c19 => ?_) (fun c19 => ?_)
    ·
      exfalso
      omega
    ·
      refine a_aload_n X 0 d_H_span_22 rfl rfl ?_
      refine a_get X ff_H_12 d_H_span_23 hq_0 rfl ?_
      refine a_iload_n X 3 d_H_span_26 rfl rfl ?_
      refine a_callV X (a := 1) (As := [.int _]) hq_1 rfl fb_Ro_has lk_H_114 im_Ro_has se_Ro_has (c_Ro_has_y hi hr.1) rfl rfl (Nat.le_of_ble_eq_true rfl) (by decide) (by decide) (Nat.le_refl _) (Nat.le_refl _) d_H_span_27 (fun v h1 hp => ?_)
      obtain ⟨rfl, rfl⟩ := hp
      refine a_if_eqN X 51 (by omega) d_H_span_30 (by decide) (fun c30 => ?_) (fun c30 => ?_)
      ·
        exfalso
        omega
      ·
        refine a_aload_n X 0 d_H_span_33 rfl rfl ?_
        refine a_get X ff_H_12 d_H_span_34 hq_0 rfl ?_
        refine a_iload X d_H_span_37 rfl ?_
        refine a_callV X (a := 1) (As := [.int _]) hq_1 rfl fb_Ro_has lk_H_114 im_Ro_has se_Ro_has (c_Ro_has_y hj hr.1) rfl rfl (Nat.le_of_ble_eq_true rfl) (by decide) (by decide) (Nat.le_refl _) (Nat.le_refl _) d_H_span_39 (fun v h1 hp => ?_)
        obtain ⟨rfl, rfl⟩ := hp
        refine a_if_eqN X 51 (by omega) d_H_span_42 (by decide) (fun c42 => ?_) (fun c42 => ?_)
        ·
          exfalso
          omega
        ·
          refine a_iload_n X 3 d_H_span_45 rfl rfl ?_
          refine a_iload X d_H_span_46 rfl ?_
          refine a_icmp_leN X 55 (by omega) (by omega) d_H_span_48 (by decide) (fun c48 => ?_) (fun c48 => ?_)
          ·
            refine a_iload X d_H_span_55 rfl ?_
            refine a_callS X (As := [.int _]) fb_H_isPart lk_H_125 sm_H_isPart (c_isP_y hpt) rfl rfl (Nat.le_of_ble_eq_true rfl) (by decide) (by decide) (Nat.le_refl _) (Nat.le_refl _) d_H_span_57 (fun v h1 hp => ?_)
            obtain ⟨rfl, rfl⟩ := hp
            refine a_if_neN X 67 (by omega) d_H_span_60 (by decide) (fun c60 => ?_) (fun c60 => ?_)
            ·
              refine a_aload_n X 0 d_H_span_67 rfl rfl ?_
              refine a_get X ff_H_63 d_H_span_68 hq_0 rfl ?_
              refine a_iload_n X 1 d_H_span_71 rfl rfl ?_
              refine a_iload_n X 2 d_H_span_72 rfl rfl ?_
              refine a_iload_n X 3 d_H_span_73 rfl rfl ?_
              refine a_iload X d_H_span_74 rfl ?_
              refine a_callV X (a := 180) (As := [.int (nI _), .int (nI _), .int (nI _), .int (nI _)]) hq_180 rfl fb_Tt_sumWith lk_H_191 im_Tt_sumWith se_Tt_sumWith (c_swi hr hK hk hkd hwn hij hj) rfl rfl (Nat.le_of_ble_eq_true rfl) (by decide) (by decide) (Nat.le_refl _) (Nat.le_refl _) d_H_span_76 (fun v h1 hp => ?_)
              obtain ⟨su, ct, be, ha, hok, hsm, hI, rfl, rfl⟩ := hp
              refine a_aload_n X 0 d_H_span_79 rfl rfl ?_
              refine a_get X ff_H_63 d_H_span_80 hq_0 rfl ?_
              refine a_iload_n X 1 d_H_span_83 rfl rfl ?_
              refine a_callV X (a := 180) (As := [.int (nI _)]) hq_180 rfl fb_Tt_sumOfAll lk_H_179 im_Tt_sumOfAll se_Tt_sumOfAll (c_soa (Nat.lt_of_lt_of_le hkd hK.1) hr hK (Or.inr ⟨rfl, hok⟩)) rfl rfl (Nat.le_of_ble_eq_true rfl) (by decide) (by decide) (Nat.le_refl _) (Nat.le_refl _) d_H_span_84 (fun v h1 hp => ?_)
              obtain ⟨su2, ct2, be2, hok2, hsm2, rfl, rfl⟩ := hp
              obtain ⟨e1, e2, e3⟩ := hsm2 rfl
              have e1 : su2 = su := e1
              have e2 : ct2 = ct := e2
              have e3 : be2 = be := e3
              obtain rfl := e1.symm
              obtain rfl := e2.symm
              obtain rfl := e3.symm
              refine a_iload X d_H_span_87 rfl ?_
              refine a_callS X (As := [.long (lN _), .long (lN _), .int (nI _)]) fb_H_lowestTerms lk_H_134 sm_H_lowestTerms (c_low (hA su ct be ha hok hI) (hsb su ct be hok) hpt) rfl rfl (Nat.le_of_ble_eq_true rfl) (by decide) (by decide) (Nat.le_refl _) (Nat.le_refl _) d_H_span_89 (fun v h1 hp => ?_)
              obtain ⟨rfl, rfl⟩ := hp
              exact a_lret X d_H_span_92 (Nat.le_refl _) (Nat.le_refl _) ⟨su, ct, be, ha, hok, hsm, hI, rfl, rfl⟩
            ·
              exfalso
              omega
          ·
            exfalso
            omega
set_option maxHeartbeats 4000000 in
set_option maxRecDepth 20000 in
theorem c_H_span_k {E : ab_E} {l : Launch} {r : hR} {s : hS} {w c : hW} {b : hB} {d : hD} {k : hK} {t : hT} {Z : List ab_C} {y1 y2 y3 y4 y5 : Int32} (ha : y1 < 0 ∨ nI k.2.2 ≤ y1) : ab_Con E l y_H_span b_H_span 6 (some .long) 5 128 [.ref 1, .int y1, .int y2, .int y3, .int y4, .int y5] (hc r s w c b d k t ++ Z) 0 0 (fun v h1 => v = some (.long (-1)) ∧ h1 = hc r s w c b d k t ++ Z) := by
  refine ab_con (own := "HiddenRows") (ini := false) (by decide) (fun h => by cases h) rfl (Nat.le_of_ble_eq_true rfl) ?_
  intro G m X
  show ab_R E G m 6 0 0 0 [(0, .ref 1), (1, .int y1), (2, .int y2), (3, .int y3), (4, .int y4), (5, .int y5)] [] (hc r s w c b d k t ++ Z)
  refine a_aload_n X 0 d_H_span_0 rfl rfl ?_
  refine a_get X ff_H_54 d_H_span_1 hq_0 rfl ?_
  refine a_iload_n X 1 d_H_span_4 rfl rfl ?_
  refine a_callV X (a := 169) (As := [.int _]) hq_169 rfl fb_Ki_has lk_H_96 im_Ki_has se_Ki_has (c_Ki_has_n ha) rfl rfl (Nat.le_of_ble_eq_true rfl) (by decide) (by decide) (Nat.le_refl _) (Nat.le_refl _) d_H_span_5 (fun v h1 hp => ?_)
  obtain ⟨rfl, rfl⟩ := hp
  refine a_if_eqN X 51 (by omega) d_H_span_8 (by decide) (fun c8 => ?_) (fun c8 => ?_)
  ·
    refine a_ldc2 X kc_H_123 d_H_span_51 ?_
    exact a_lret X d_H_span_54 (Nat.le_refl _) (Nat.le_refl _) ⟨rfl, rfl⟩
  ·
    exfalso
    omega
set_option maxHeartbeats 4000000 in
set_option maxRecDepth 20000 in
theorem c_H_span_w {E : ab_E} {l : Launch} {r : hR} {s : hS} {w c : hW} {b : hB} {d : hD} {k : hK} {t : hT} {Z : List ab_C} {kd : Nat} {y2 y3 y4 y5 : Int32} (hK : okK k) (hkd : kd < k.2.2) (hb : y2 < 0 ∨ nI k.2.2 ≤ y2) : ab_Con E l y_H_span b_H_span 6 (some .long) 5 128 [.ref 1, .int (nI kd), .int y2, .int y3, .int y4, .int y5] (hc r s w c b d k t ++ Z) 0 0 (fun v h1 => v = some (.long (-1)) ∧ h1 = hc r s w c b d k t ++ Z) := by
  refine ab_con (own := "HiddenRows") (ini := false) (by decide) (fun h => by cases h) rfl (Nat.le_of_ble_eq_true rfl) ?_
  intro G m X
  show ab_R E G m 6 0 0 0 [(0, .ref 1), (1, .int (nI kd)), (2, .int y2), (3, .int y3), (4, .int y4), (5, .int y5)] [] (hc r s w c b d k t ++ Z)
  refine a_aload_n X 0 d_H_span_0 rfl rfl ?_
  refine a_get X ff_H_54 d_H_span_1 hq_0 rfl ?_
  refine a_iload_n X 1 d_H_span_4 rfl rfl ?_
  refine a_callV X (a := 169) (As := [.int _]) hq_169 rfl fb_Ki_has lk_H_96 im_Ki_has se_Ki_has (c_Ki_has_y hkd hK.1) rfl rfl (Nat.le_of_ble_eq_true rfl) (by decide) (by decide) (Nat.le_refl _) (Nat.le_refl _) d_H_span_5 (fun v h1 hp => ?_)
  obtain ⟨rfl, rfl⟩ := hp
  refine a_if_eqN X 51 (by omega) d_H_span_8 (by decide) (fun c8 => ?_) (fun c8 => ?_)
  ·
    exfalso
    omega
  ·
    refine a_aload_n X 0 d_H_span_11 rfl rfl ?_
    refine a_get X ff_H_54 d_H_span_12 hq_0 rfl ?_
    refine a_iload_n X 2 d_H_span_15 rfl rfl ?_
    refine a_callV X (a := 169) (As := [.int _]) hq_169 rfl fb_Ki_has lk_H_96 im_Ki_has se_Ki_has (c_Ki_has_n hb) rfl rfl (Nat.le_of_ble_eq_true rfl) (by decide) (by decide) (Nat.le_refl _) (Nat.le_refl _) d_H_span_16 (fun v h1 hp => ?_)
    obtain ⟨rfl, rfl⟩ := hp
    refine a_if_eqN X 51 (by omega) d_H_span_19 (by decide) (fun c19 => ?_) (fun c19 => ?_)
    ·
      refine a_ldc2 X kc_H_123 d_H_span_51 ?_
      exact a_lret X d_H_span_54 (Nat.le_refl _) (Nat.le_refl _) ⟨rfl, rfl⟩
    ·
      exfalso
      omega
set_option maxHeartbeats 4000000 in
set_option maxRecDepth 20000 in
theorem c_H_span_i {E : ab_E} {l : Launch} {r : hR} {s : hS} {w c : hW} {b : hB} {d : hD} {k : hK} {t : hT} {Z : List ab_C} {kd wn : Nat} {y3 y4 y5 : Int32} (hK : okK k) (hkd : kd < k.2.2) (hwn : wn < k.2.2) (hb : y3 < 0 ∨ nI r.2.2 ≤ y3) : ab_Con E l y_H_span b_H_span 6 (some .long) 5 128 [.ref 1, .int (nI kd), .int (nI wn), .int y3, .int y4, .int y5] (hc r s w c b d k t ++ Z) 0 0 (fun v h1 => v = some (.long (-1)) ∧ h1 = hc r s w c b d k t ++ Z) := by
  refine ab_con (own := "HiddenRows") (ini := false) (by decide) (fun h => by cases h) rfl (Nat.le_of_ble_eq_true rfl) ?_
  intro G m X
  show ab_R E G m 6 0 0 0 [(0, .ref 1), (1, .int (nI kd)), (2, .int (nI wn)), (3, .int y3), (4, .int y4), (5, .int y5)] [] (hc r s w c b d k t ++ Z)
  refine a_aload_n X 0 d_H_span_0 rfl rfl ?_
  refine a_get X ff_H_54 d_H_span_1 hq_0 rfl ?_
  refine a_iload_n X 1 d_H_span_4 rfl rfl ?_
  refine a_callV X (a := 169) (As := [.int _]) hq_169 rfl fb_Ki_has lk_H_96 im_Ki_has se_Ki_has (c_Ki_has_y hkd hK.1) rfl rfl (Nat.le_of_ble_eq_true rfl) (by decide) (by decide) (Nat.le_refl _) (Nat.le_refl _) d_H_span_5 (fun v h1 hp => ?_)
  obtain ⟨rfl, rfl⟩ := hp
  refine a_if_eqN X 51 (by omega) d_H_span_8 (by decide) (fun c8 => ?_) (fun c8 => ?_)
  ·
    exfalso
    omega
  ·
    refine a_aload_n X 0 d_H_span_11 rfl rfl ?_
    refine a_get X ff_H_54 d_H_span_12 hq_0 rfl ?_
    refine a_iload_n X 2 d_H_span_15 rfl rfl ?_
    refine a_callV X (a := 169) (As := [.int _]) hq_169 rfl fb_Ki_has lk_H_96 im_Ki_has se_Ki_has (c_Ki_has_y hwn hK.1) rfl rfl (Nat.le_of_ble_eq_true rfl) (by decide) (by decide) (Nat.le_refl _) (Nat.le_refl _) d_H_span_16 (fun v h1 hp => ?_)
    obtain ⟨rfl, rfl⟩ := hp
    refine a_if_eqN X 51 (by omega) d_H_span_19 (by decide) (fun c19 => ?_) (fun c19 => ?_)
    ·
      exfalso
      omega
    ·
      refine a_aload_n X 0 d_H_span_22 rfl rfl ?_
      refine a_get X ff_H_12 d_H_span_23 hq_0 rfl ?_
      refine a_iload_n X 3 d_H_span_26 rfl rfl ?_
      refine a_callV X (a := 1) (As := [.int _]) hq_1 rfl fb_Ro_has lk_H_114 im_Ro_has se_Ro_has (c_Ro_has_n hb) rfl rfl (Nat.le_of_ble_eq_true rfl) (by decide) (by decide) (Nat.le_refl _) (Nat.le_refl _) d_H_span_27 (fun v h1 hp => ?_)
      obtain ⟨rfl, rfl⟩ := hp
      refine a_if_eqN X 51 (by omega) d_H_span_30 (by decide) (fun c30 => ?_) (fun c30 => ?_)
      ·
        refine a_ldc2 X kc_H_123 d_H_span_51 ?_
        exact a_lret X d_H_span_54 (Nat.le_refl _) (Nat.le_refl _) ⟨rfl, rfl⟩
      ·
        exfalso
        omega
set_option maxHeartbeats 4000000 in
set_option maxRecDepth 20000 in
theorem c_H_span_j {E : ab_E} {l : Launch} {r : hR} {s : hS} {w c : hW} {b : hB} {d : hD} {k : hK} {t : hT} {Z : List ab_C} {kd wn i : Nat} {y4 y5 : Int32} (hr : okR r) (hK : okK k) (hkd : kd < k.2.2) (hwn : wn < k.2.2) (hi : i < r.2.2) (hb : y4 < 0 ∨ nI r.2.2 ≤ y4) : ab_Con E l y_H_span b_H_span 6 (some .long) 5 128 [.ref 1, .int (nI kd), .int (nI wn), .int (nI i), .int y4, .int y5] (hc r s w c b d k t ++ Z) 0 0 (fun v h1 => v = some (.long (-1)) ∧ h1 = hc r s w c b d k t ++ Z) := by
  refine ab_con (own := "HiddenRows") (ini := false) (by decide) (fun h => by cases h) rfl (Nat.le_of_ble_eq_true rfl) ?_
  intro G m X
  show ab_R E G m 6 0 0 0 [(0, .ref 1), (1, .int (nI kd)), (2, .int (nI wn)), (3, .int (nI i)), (4, .int y4), (5, .int y5)] [] (hc r s w c b d k t ++ Z)
  refine a_aload_n X 0 d_H_span_0 rfl rfl ?_
  refine a_get X ff_H_54 d_H_span_1 hq_0 rfl ?_
  refine a_iload_n X 1 d_H_span_4 rfl rfl ?_
  refine a_callV X (a := 169) (As := [.int _]) hq_169 rfl fb_Ki_has lk_H_96 im_Ki_has se_Ki_has (c_Ki_has_y hkd hK.1) rfl rfl (Nat.le_of_ble_eq_true rfl) (by decide) (by decide) (Nat.le_refl _) (Nat.le_refl _) d_H_span_5 (fun v h1 hp => ?_)
  obtain ⟨rfl, rfl⟩ := hp
  refine a_if_eqN X 51 (by omega) d_H_span_8 (by decide) (fun c8 => ?_) (fun c8 => ?_)
  ·
    exfalso
    omega
  ·
    refine a_aload_n X 0 d_H_span_11 rfl rfl ?_
    refine a_get X ff_H_54 d_H_span_12 hq_0 rfl ?_
    refine a_iload_n X 2 d_H_span_15 rfl rfl ?_
    refine a_callV X (a := 169) (As := [.int _]) hq_169 rfl fb_Ki_has lk_H_96 im_Ki_has se_Ki_has (c_Ki_has_y hwn hK.1) rfl rfl (Nat.le_of_ble_eq_true rfl) (by decide) (by decide) (Nat.le_refl _) (Nat.le_refl _) d_H_span_16 (fun v h1 hp => ?_)
    obtain ⟨rfl, rfl⟩ := hp
    refine a_if_eqN X 51 (by omega) d_H_span_19 (by decide) (fun c19 => ?_) (fun c19 => ?_)
    ·
      exfalso
      omega
    ·
      refine a_aload_n X 0 d_H_span_22 rfl rfl ?_
      refine a_get X ff_H_12 d_H_span_23 hq_0 rfl ?_
      refine a_iload_n X 3 d_H_span_26 rfl rfl ?_
      refine a_callV X (a := 1) (As := [.int _]) hq_1 rfl fb_Ro_has lk_H_114 im_Ro_has se_Ro_has (c_Ro_has_y hi hr.1) rfl rfl (Nat.le_of_ble_eq_true rfl) (by decide) (by decide) (Nat.le_refl _) (Nat.le_refl _) d_H_span_27 (fun v h1 hp => ?_)
      obtain ⟨rfl, rfl⟩ := hp
      refine a_if_eqN X 51 (by omega) d_H_span_30 (by decide) (fun c30 => ?_) (fun c30 => ?_)
      ·
        exfalso
        omega
      ·
        refine a_aload_n X 0 d_H_span_33 rfl rfl ?_
        refine a_get X ff_H_12 d_H_span_34 hq_0 rfl ?_
        refine a_iload X d_H_span_37 rfl ?_
        refine a_callV X (a := 1) (As := [.int _]) hq_1 rfl fb_Ro_has lk_H_114 im_Ro_has se_Ro_has (c_Ro_has_n hb) rfl rfl (Nat.le_of_ble_eq_true rfl) (by decide) (by decide) (Nat.le_refl _) (Nat.le_refl _) d_H_span_39 (fun v h1 hp => ?_)
        obtain ⟨rfl, rfl⟩ := hp
        refine a_if_eqN X 51 (by omega) d_H_span_42 (by decide) (fun c42 => ?_) (fun c42 => ?_)
        ·
          refine a_ldc2 X kc_H_123 d_H_span_51 ?_
          exact a_lret X d_H_span_54 (Nat.le_refl _) (Nat.le_refl _) ⟨rfl, rfl⟩
        ·
          exfalso
          omega
set_option maxHeartbeats 4000000 in
set_option maxRecDepth 20000 in
theorem c_H_span_o {E : ab_E} {l : Launch} {r : hR} {s : hS} {w c : hW} {b : hB} {d : hD} {k : hK} {t : hT} {Z : List ab_C} {kd wn i j : Nat} {y5 : Int32} (hr : okR r) (hK : okK k) (hkd : kd < k.2.2) (hwn : wn < k.2.2) (hi : i < r.2.2) (hj : j < r.2.2) (hij : j < i) : ab_Con E l y_H_span b_H_span 6 (some .long) 5 128 [.ref 1, .int (nI kd), .int (nI wn), .int (nI i), .int (nI j), .int y5] (hc r s w c b d k t ++ Z) 0 0 (fun v h1 => v = some (.long (-1)) ∧ h1 = hc r s w c b d k t ++ Z) := by
  have hn := hr.1
  refine ab_con (own := "HiddenRows") (ini := false) (by decide) (fun h => by cases h) rfl (Nat.le_of_ble_eq_true rfl) ?_
  intro G m X
  show ab_R E G m 6 0 0 0 [(0, .ref 1), (1, .int (nI kd)), (2, .int (nI wn)), (3, .int (nI i)), (4, .int (nI j)), (5, .int y5)] [] (hc r s w c b d k t ++ Z)
  refine a_aload_n X 0 d_H_span_0 rfl rfl ?_
  refine a_get X ff_H_54 d_H_span_1 hq_0 rfl ?_
  refine a_iload_n X 1 d_H_span_4 rfl rfl ?_
  refine a_callV X (a := 169) (As := [.int _]) hq_169 rfl fb_Ki_has lk_H_96 im_Ki_has se_Ki_has (c_Ki_has_y hkd hK.1) rfl rfl (Nat.le_of_ble_eq_true rfl) (by decide) (by decide) (Nat.le_refl _) (Nat.le_refl _) d_H_span_5 (fun v h1 hp => ?_)
  obtain ⟨rfl, rfl⟩ := hp
  refine a_if_eqN X 51 (by omega) d_H_span_8 (by decide) (fun c8 => ?_) (fun c8 => ?_)
  ·
    exfalso
    omega
  ·
    refine a_aload_n X 0 d_H_span_11 rfl rfl ?_
    refine a_get X ff_H_54 d_H_span_12 hq_0 rfl ?_
    refine a_iload_n X 2 d_H_span_15 rfl rfl ?_
    refine a_callV X (a := 169) (As := [.int _]) hq_169 rfl fb_Ki_has lk_H_96 im_Ki_has se_Ki_has (c_Ki_has_y hwn hK.1) rfl rfl (Nat.le_of_ble_eq_true rfl) (by decide) (by decide) (Nat.le_refl _) (Nat.le_refl _) d_H_span_16 (fun v h1 hp => ?_)
    obtain ⟨rfl, rfl⟩ := hp
    refine a_if_eqN X 51 (by omega) d_H_span_19 (by decide) (fun c19 => ?_) (fun c19 => ?_)
    ·
      exfalso
      omega
    ·
      refine a_aload_n X 0 d_H_span_22 rfl rfl ?_
      refine a_get X ff_H_12 d_H_span_23 hq_0 rfl ?_
      refine a_iload_n X 3 d_H_span_26 rfl rfl ?_
      refine a_callV X (a := 1) (As := [.int _]) hq_1 rfl fb_Ro_has lk_H_114 im_Ro_has se_Ro_has (c_Ro_has_y hi hr.1) rfl rfl (Nat.le_of_ble_eq_true rfl) (by decide) (by decide) (Nat.le_refl _) (Nat.le_refl _) d_H_span_27 (fun v h1 hp => ?_)
      obtain ⟨rfl, rfl⟩ := hp
      refine a_if_eqN X 51 (by omega) d_H_span_30 (by decide) (fun c30 => ?_) (fun c30 => ?_)
      ·
        exfalso
        omega
      ·
        refine a_aload_n X 0 d_H_span_33 rfl rfl ?_
        refine a_get X ff_H_12 d_H_span_34 hq_0 rfl ?_
        refine a_iload X d_H_span_37 rfl ?_
        refine a_callV X (a := 1) (As := [.int _]) hq_1 rfl fb_Ro_has lk_H_114 im_Ro_has se_Ro_has (c_Ro_has_y hj hr.1) rfl rfl (Nat.le_of_ble_eq_true rfl) (by decide) (by decide) (Nat.le_refl _) (Nat.le_refl _) d_H_span_39 (fun v h1 hp => ?_)
        obtain ⟨rfl, rfl⟩ := hp
        refine a_if_eqN X 51 (by omega) d_H_span_42 (by decide) (fun c42 => ?_) (fun c42 => ?_)
        ·
          exfalso
          omega
        ·
          refine a_iload_n X 3 d_H_span_45 rfl rfl ?_
          refine a_iload X d_H_span_46 rfl ?_
          refine a_icmp_leN X 55 (by omega) (by omega) d_H_span_48 (by decide) (fun c48 => ?_) (fun c48 => ?_)
          ·
            exfalso
            omega
          ·
            refine a_ldc2 X kc_H_123 d_H_span_51 ?_
            exact a_lret X d_H_span_54 (Nat.le_refl _) (Nat.le_refl _) ⟨rfl, rfl⟩
set_option maxHeartbeats 4000000 in
set_option maxRecDepth 20000 in
theorem c_H_span_x {E : ab_E} {l : Launch} {r : hR} {s : hS} {w c : hW} {b : hB} {d : hD} {k : hK} {t : hT} {Z : List ab_C} {kd wn i j : Nat} {x : Int32} (hr : okR r) (hK : okK k) (hkd : kd < k.2.2) (hwn : wn < k.2.2) (hi : i < r.2.2) (hj : j < r.2.2) (hij : i ≤ j) (hx : x ≠ 0 ∧ x ≠ nI 1) : ab_Con E l y_H_span b_H_span 6 (some .long) 5 128 [.ref 1, .int (nI kd), .int (nI wn), .int (nI i), .int (nI j), .int x] (hc r s w c b d k t ++ Z) 0 0 (fun v h1 => v = some (.long (-2)) ∧ h1 = hc r s w c b d k t ++ Z) := by
  have hn := hr.1
  refine ab_con (own := "HiddenRows") (ini := false) (by decide) (fun h => by cases h) rfl (Nat.le_of_ble_eq_true rfl) ?_
  intro G m X
  show ab_R E G m 6 0 0 0 [(0, .ref 1), (1, .int (nI kd)), (2, .int (nI wn)), (3, .int (nI i)), (4, .int (nI j)), (5, .int x)] [] (hc r s w c b d k t ++ Z)
  refine a_aload_n X 0 d_H_span_0 rfl rfl ?_
  refine a_get X ff_H_54 d_H_span_1 hq_0 rfl ?_
  refine a_iload_n X 1 d_H_span_4 rfl rfl ?_
  refine a_callV X (a := 169) (As := [.int _]) hq_169 rfl fb_Ki_has lk_H_96 im_Ki_has se_Ki_has (c_Ki_has_y hkd hK.1) rfl rfl (Nat.le_of_ble_eq_true rfl) (by decide) (by decide) (Nat.le_refl _) (Nat.le_refl _) d_H_span_5 (fun v h1 hp => ?_)
  obtain ⟨rfl, rfl⟩ := hp
  refine a_if_eqN X 51 (by omega) d_H_span_8 (by decide) (fun c8 => ?_) (fun c8 => ?_)
  ·
    exfalso
    omega
  ·
    refine a_aload_n X 0 d_H_span_11 rfl rfl ?_
    refine a_get X ff_H_54 d_H_span_12 hq_0 rfl ?_
    refine a_iload_n X 2 d_H_span_15 rfl rfl ?_
    refine a_callV X (a := 169) (As := [.int _]) hq_169 rfl fb_Ki_has lk_H_96 im_Ki_has se_Ki_has (c_Ki_has_y hwn hK.1) rfl rfl (Nat.le_of_ble_eq_true rfl) (by decide) (by decide) (Nat.le_refl _) (Nat.le_refl _) d_H_span_16 (fun v h1 hp => ?_)
    obtain ⟨rfl, rfl⟩ := hp
    refine a_if_eqN X 51 (by omega) d_H_span_19 (by decide) (fun c19 => ?_) (fun c19 => ?_)
    ·
      exfalso
      omega
    ·
      refine a_aload_n X 0 d_H_span_22 rfl rfl ?_
      refine a_get X ff_H_12 d_H_span_23 hq_0 rfl ?_
      refine a_iload_n X 3 d_H_span_26 rfl rfl ?_
      refine a_callV X (a := 1) (As := [.int _]) hq_1 rfl fb_Ro_has lk_H_114 im_Ro_has se_Ro_has (c_Ro_has_y hi hr.1) rfl rfl (Nat.le_of_ble_eq_true rfl) (by decide) (by decide) (Nat.le_refl _) (Nat.le_refl _) d_H_span_27 (fun v h1 hp => ?_)
      obtain ⟨rfl, rfl⟩ := hp
      refine a_if_eqN X 51 (by omega) d_H_span_30 (by decide) (fun c30 => ?_) (fun c30 => ?_)
      ·
        exfalso
        omega
      ·
        refine a_aload_n X 0 d_H_span_33 rfl rfl ?_
        refine a_get X ff_H_12 d_H_span_34 hq_0 rfl ?_
        refine a_iload X d_H_span_37 rfl ?_
        refine a_callV X (a := 1) (As := [.int _]) hq_1 rfl fb_Ro_has lk_H_114 im_Ro_has se_Ro_has (c_Ro_has_y hj hr.1) rfl rfl (Nat.le_of_ble_eq_true rfl) (by decide) (by decide) (Nat.le_refl _) (Nat.le_refl _) d_H_span_39 (fun v h1 hp => ?_)
        obtain ⟨rfl, rfl⟩ := hp
        refine a_if_eqN X 51 (by omega) d_H_span_42 (by decide) (fun c42 => ?_) (fun c42 => ?_)
        ·
          exfalso
          omega
        ·
          refine a_iload_n X 3 d_H_span_45 rfl rfl ?_
          refine a_iload X d_H_span_46 rfl ?_
          refine a_icmp_leN X 55 (by omega) (by omega) d_H_span_48 (by decide) (fun c48 => ?_) (fun c48 => ?_)
          ·
            refine a_iload X d_H_span_55 rfl ?_
            refine a_callS X (As := [.int _]) fb_H_isPart lk_H_125 sm_H_isPart (c_isP_n hx) rfl rfl (Nat.le_of_ble_eq_true rfl) (by decide) (by decide) (Nat.le_refl _) (Nat.le_refl _) d_H_span_57 (fun v h1 hp => ?_)
            obtain ⟨rfl, rfl⟩ := hp
            refine a_if_neN X 67 (by omega) d_H_span_60 (by decide) (fun c60 => ?_) (fun c60 => ?_)
            ·
              exfalso
              omega
            ·
              refine a_ldc2 X kc_H_128 d_H_span_63 ?_
              exact a_lret X d_H_span_66 (Nat.le_refl _) (Nat.le_refl _) ⟨rfl, rfl⟩
          ·
            exfalso
            omega
set_option maxHeartbeats 4000000 in
set_option maxRecDepth 20000 in
theorem c_H_drawnAt_0 {E : ab_E} {l : Launch} {r : hR} {s : hS} {w c : hW} {b : hB} {d : hD} {k : hK} {t : hT} {Z : List ab_C} {a : Int32} (hd : d.2.2.2.2.2 = 0) : ab_Con E l y_H_drawnAt b_H_drawnAt 2 (some .int) 1 22 [.ref 1, .int a] (hc r s w c b d k t ++ Z) 0 0 (fun v h1 => v = some (.int (-3)) ∧ h1 = hc r s w c b d k t ++ Z) := by
  refine ab_con (own := "HiddenRows") (ini := false) (by decide) (fun h => by cases h) rfl (Nat.le_of_ble_eq_true rfl) ?_
  intro G m X
  show ab_R E G m 2 0 0 0 [(0, .ref 1), (1, .int a)] [] (hc r s w c b d k t ++ Z)
  refine a_aload_n X 0 d_H_drawnAt_0 rfl rfl ?_
  refine a_get X ff_H_47 d_H_drawnAt_1 hq_0 rfl ?_
  refine a_get X ff_H_173 d_H_drawnAt_4 hq_168 rfl ?_
  refine a_if_neN X 13 (by omega) d_H_drawnAt_7 (by decide) (fun c7 => ?_) (fun c7 => ?_)
  ·
    exfalso
    omega
  ·
    refine a_bipush X (v := -3) d_H_drawnAt_10 (by decide) ?_
    exact a_iret X d_H_drawnAt_12 (Nat.le_refl _) (Nat.le_refl _) ⟨rfl, rfl⟩
set_option maxHeartbeats 4000000 in
set_option maxRecDepth 20000 in
theorem c_H_drawnAt_p {E : ab_E} {l : Launch} {r : hR} {s : hS} {w c : hW} {b : hB} {d : hD} {k : hK} {t : hT} {Z : List ab_C} {a : Int32} (hd : d.2.2.2.2.2 = 1) (ha : a < 0 ∨ nI r.2.2 ≤ a) : ab_Con E l y_H_drawnAt b_H_drawnAt 2 (some .int) 1 22 [.ref 1, .int a] (hc r s w c b d k t ++ Z) 0 0 (fun v h1 => v = some (.int (-1)) ∧ h1 = hc r s w c b d k t ++ Z) := by
  refine ab_con (own := "HiddenRows") (ini := false) (by decide) (fun h => by cases h) rfl (Nat.le_of_ble_eq_true rfl) ?_
  intro G m X
  show ab_R E G m 2 0 0 0 [(0, .ref 1), (1, .int a)] [] (hc r s w c b d k t ++ Z)
  refine a_aload_n X 0 d_H_drawnAt_0 rfl rfl ?_
  refine a_get X ff_H_47 d_H_drawnAt_1 hq_0 rfl ?_
  refine a_get X ff_H_173 d_H_drawnAt_4 hq_168 rfl ?_
  refine a_if_neN X 13 (by omega) d_H_drawnAt_7 (by decide) (fun c7 => ?_) (fun c7 => ?_)
  ·
    refine a_aload_n X 0 d_H_drawnAt_13 rfl rfl ?_
    refine a_get X ff_H_12 d_H_drawnAt_14 hq_0 rfl ?_
    refine a_iload_n X 1 d_H_drawnAt_17 rfl rfl ?_
    refine a_callV X (a := 1) (As := [.int _]) hq_1 rfl fb_Ro_has lk_H_114 im_Ro_has se_Ro_has (c_Ro_has_n ha) rfl rfl (Nat.le_of_ble_eq_true rfl) (by decide) (by decide) (Nat.le_refl _) (Nat.le_refl _) d_H_drawnAt_18 (fun v h1 hp => ?_)
    obtain ⟨rfl, rfl⟩ := hp
    refine a_if_eqN X 42 (by omega) d_H_drawnAt_21 (by decide) (fun c21 => ?_) (fun c21 => ?_)
    ·
      refine a_iconst X (v := -1) d_H_drawnAt_42 (by decide) ?_
      exact a_iret X d_H_drawnAt_43 (Nat.le_refl _) (Nat.le_refl _) ⟨rfl, rfl⟩
    ·
      exfalso
      omega
  ·
    exfalso
    omega
set_option maxHeartbeats 4000000 in
set_option maxRecDepth 20000 in
theorem c_H_drawnAt_ok {E : ab_E} {l : Launch} {r : hR} {s : hS} {w c : hW} {b : hB} {d : hD} {k : hK} {t : hT} {Z : List ab_C} {p : Nat} (hd : d.2.2.2.2.2 = 1) (hn : r.2.2 ≤ 6) (hp : p < r.2.2) (ht : d.2.2.2.2.1 < 2 ^ 31) : ab_Con E l y_H_drawnAt b_H_drawnAt 2 (some .int) 1 22 [.ref 1, .int (nI p)] (hc r s w c b d k t ++ Z) 0 0 (fun v h1 => v = some (.int (nI (d.2.2.2.2.1 / 2 ^ (3 * (r.2.2 - 1 - p)) % 8))) ∧ h1 = hc r s w c b d k t ++ Z) := by
  refine ab_con (own := "HiddenRows") (ini := false) (by decide) (fun h => by cases h) rfl (Nat.le_of_ble_eq_true rfl) ?_
  intro G m X
  show ab_R E G m 2 0 0 0 [(0, .ref 1), (1, .int (nI p))] [] (hc r s w c b d k t ++ Z)
  refine a_aload_n X 0 d_H_drawnAt_0 rfl rfl ?_
  refine a_get X ff_H_47 d_H_drawnAt_1 hq_0 rfl ?_
  refine a_get X ff_H_173 d_H_drawnAt_4 hq_168 rfl ?_
  refine a_if_neN X 13 (by omega) d_H_drawnAt_7 (by decide) (fun c7 => ?_) (fun c7 => ?_)
  ·
    refine a_aload_n X 0 d_H_drawnAt_13 rfl rfl ?_
    refine a_get X ff_H_12 d_H_drawnAt_14 hq_0 rfl ?_
    refine a_iload_n X 1 d_H_drawnAt_17 rfl rfl ?_
    refine a_callV X (a := 1) (As := [.int _]) hq_1 rfl fb_Ro_has lk_H_114 im_Ro_has se_Ro_has (c_Ro_has_y hp hn) rfl rfl (Nat.le_of_ble_eq_true rfl) (by decide) (by decide) (Nat.le_refl _) (Nat.le_refl _) d_H_drawnAt_18 (fun v h1 hp => ?_)
    obtain ⟨rfl, rfl⟩ := hp
    refine a_if_eqN X 42 (by omega) d_H_drawnAt_21 (by decide) (fun c21 => ?_) (fun c21 => ?_)
    ·
      exfalso
      omega
    ·
      refine a_aload_n X 0 d_H_drawnAt_24 rfl rfl ?_
      refine a_get X ff_H_12 d_H_drawnAt_25 hq_0 rfl ?_
      refine a_aload_n X 0 d_H_drawnAt_28 rfl rfl ?_
      refine a_get X ff_H_47 d_H_drawnAt_29 hq_0 rfl ?_
      refine a_get X ff_H_177 d_H_drawnAt_32 hq_168 rfl ?_
      refine a_iload_n X 1 d_H_drawnAt_35 rfl rfl ?_
      refine a_callV X (a := 1) (As := [.int (nI _), .int (nI _)]) hq_1 rfl fb_Ro_toldAt lk_H_162 im_Ro_toldAt se_Ro_toldAt (c_tat hn ht hp) rfl rfl (Nat.le_of_ble_eq_true rfl) (by decide) (by decide) (Nat.le_refl _) (Nat.le_refl _) d_H_drawnAt_36 (fun v h1 hp => ?_)
      obtain ⟨rfl, rfl⟩ := hp
      refine a_goto X 43 d_H_drawnAt_39 (by decide) ?_
      exact a_iret X d_H_drawnAt_43 (Nat.le_refl _) (Nat.le_refl _) ⟨rfl, rfl⟩
  ·
    exfalso
    omega
