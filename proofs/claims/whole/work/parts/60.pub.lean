set_option maxHeartbeats 4000000 in
set_option maxRecDepth 20000 in
theorem c_H_state_ok {E : ab_E} {l : Launch} {r : hR} {s : hS} {w c : hW} {b : hB} {d : hD} {k : hK} {t : hT} {Z : List ab_C} (hq : s.2.2 < 4) : ab_Con E l y_H_state b_H_state 1 (some .int) 1 20 [.ref 1] (hc r s w c b d k t ++ Z) 0 0 (fun v h1 => v = some (.int (nI s.2.2)) ∧ h1 = hc r (up2 (up2 (up2 s.1 s.2.2 0 1) s.2.2 1 1) s.2.2 2 1, s.2.1, s.2.2 + 1) (w.1, w.2.1, w.2.2.1, w.2.2.2.1, w.2.2.2.2.1, 0) (c.1, c.2.1, c.2.2.1, c.2.2.2.1, c.2.2.2.2.1, 0) (b.1, 0) (d.1, d.2.1, d.2.2.1, d.2.2.2.1, d.2.2.2.2.1, 0) k t ++ Z) := by
  refine ab_con (own := "HiddenRows") (ini := false) (by decide) (fun h => by cases h) rfl (Nat.le_of_ble_eq_true rfl) ?_
  intro G m X
  show ab_R E G m 1 0 0 0 [(0, .ref 1)] [] (hc r s w c b d k t ++ Z)
  refine a_aload_n X 0 d_H_state_0 rfl rfl ?_
  refine a_get X ff_H_19 d_H_state_1 hq_0 rfl ?_
  refine a_get X ff_H_70 d_H_state_4 hq_4 rfl ?_
  refine a_iconst X (v := nI 4) d_H_state_7 (by decide) ?_
  refine a_icmp_ltN X 14 (by omega) (by omega) d_H_state_8 (by decide) (fun c8 => ?_) (fun c8 => ?_)
  ·
    refine a_aload_n X 0 d_H_state_14 rfl rfl ?_
    refine a_callV X (a := 0) (As := []) hq_0 rfl fb_H_forgetWays lk_H_74 im_H_forgetWays se_H_forgetWays (c_fgw) rfl rfl (Nat.le_of_ble_eq_true rfl) (by decide) (by decide) (Nat.le_refl _) (Nat.le_refl _) d_H_state_15 (fun v h1 hp => ?_)
    obtain ⟨rfl, rfl⟩ := hp
    refine a_aload_n X 0 d_H_state_18 rfl rfl ?_
    refine a_get X ff_H_19 d_H_state_19 hq_0 rfl ?_
    refine a_callV X (a := 4) (As := []) hq_4 rfl fb_St_addOne lk_H_77 im_St_addOne se_St_addOne (c_add1 hq) rfl rfl (Nat.le_of_ble_eq_true rfl) (by decide) (by decide) (Nat.le_refl _) (Nat.le_refl _) d_H_state_22 (fun v h1 hp => ?_)
    obtain ⟨rfl, rfl⟩ := hp
    exact a_iret X d_H_state_25 (Nat.le_refl _) (Nat.le_refl _) ⟨rfl, rfl⟩
  ·
    exfalso
    omega
set_option maxHeartbeats 4000000 in
set_option maxRecDepth 20000 in
theorem c_H_state_no {E : ab_E} {l : Launch} {r : hR} {s : hS} {w c : hW} {b : hB} {d : hD} {k : hK} {t : hT} {Z : List ab_C} (hq : s.2.2 = 4) : ab_Con E l y_H_state b_H_state 1 (some .int) 1 20 [.ref 1] (hc r s w c b d k t ++ Z) 0 0 (fun v h1 => v = some (.int (-4)) ∧ h1 = hc r s w c b d k t ++ Z) := by
  refine ab_con (own := "HiddenRows") (ini := false) (by decide) (fun h => by cases h) rfl (Nat.le_of_ble_eq_true rfl) ?_
  intro G m X
  show ab_R E G m 1 0 0 0 [(0, .ref 1)] [] (hc r s w c b d k t ++ Z)
  refine a_aload_n X 0 d_H_state_0 rfl rfl ?_
  refine a_get X ff_H_19 d_H_state_1 hq_0 rfl ?_
  refine a_get X ff_H_70 d_H_state_4 hq_4 rfl ?_
  refine a_iconst X (v := nI 4) d_H_state_7 (by decide) ?_
  refine a_icmp_ltN X 14 (by omega) (by omega) d_H_state_8 (by decide) (fun c8 => ?_) (fun c8 => ?_)
  ·
    exfalso
    omega
  ·
    refine a_bipush X (v := -4) d_H_state_11 (by decide) ?_
    exact a_iret X d_H_state_13 (Nat.le_refl _) (Nat.le_refl _) ⟨rfl, rfl⟩
set_option maxHeartbeats 4000000 in
set_option maxRecDepth 20000 in
theorem c_H_weight_ok {E : ab_E} {l : Launch} {r : hR} {s : hS} {w c : hW} {b : hB} {d : hD} {k : hK} {t : hT} {Z : List ab_C} {j z x : Nat} (hq : s.2.2 ≤ 4) (hj : j < s.2.2) (hz : z < 9) (hx : x ≤ 4) : ab_Con E l y_H_weight b_H_weight 5 (some .int) 1 21 [.ref 1, .int (nI j), .int (nI z), .int (nI x)] (hc r s w c b d k t ++ Z) 0 0 (fun v h1 => v = some (.int (nI (s.1 j z))) ∧ h1 = hc r (up2 s.1 j z x, s.2.1, s.2.2) (w.1, w.2.1, w.2.2.1, w.2.2.2.1, w.2.2.2.2.1, 0) (c.1, c.2.1, c.2.2.1, c.2.2.2.1, c.2.2.2.2.1, 0) (b.1, 0) (d.1, d.2.1, d.2.2.1, d.2.2.2.1, d.2.2.2.2.1, 0) k t ++ Z) := by
  refine ab_con (own := "HiddenRows") (ini := false) (by decide) (fun h => by cases h) rfl (Nat.le_of_ble_eq_true rfl) ?_
  intro G m X
  show ab_R E G m 5 0 0 0 [(0, .ref 1), (1, .int (nI j)), (2, .int (nI z)), (3, .int (nI x))] [] (hc r s w c b d k t ++ Z)
  refine a_aload_n X 0 d_H_weight_0 rfl rfl ?_
  refine a_get X ff_H_19 d_H_weight_1 hq_0 rfl ?_
  refine a_iload_n X 1 d_H_weight_4 rfl rfl ?_
  refine a_callV X (a := 4) (As := [.int _]) hq_4 rfl fb_St_has lk_H_81 im_St_has se_St_has (c_St_has_y hj hq) rfl rfl (Nat.le_of_ble_eq_true rfl) (by decide) (by decide) (Nat.le_refl _) (Nat.le_refl _) d_H_weight_5 (fun v h1 hp => ?_)
  obtain ⟨rfl, rfl⟩ := hp
  refine a_if_eqN X 21 (by omega) d_H_weight_8 (by decide) (fun c8 => ?_) (fun c8 => ?_)
  ·
    exfalso
    omega
  ·
    refine a_iload_n X 2 d_H_weight_11 rfl rfl ?_
    refine a_if_ltN X 21 (by omega) d_H_weight_12 (by decide) ?_
    refine a_iload_n X 2 d_H_weight_15 rfl rfl ?_
    refine a_bipush X (v := nI 9) d_H_weight_16 (by decide) ?_
    refine a_icmp_ltN X 23 (by omega) (by omega) d_H_weight_18 (by decide) (fun c18 => ?_) (fun c18 => ?_)
    ·
      refine a_iload_n X 3 d_H_weight_23 rfl rfl ?_
      refine a_callS X (As := [.int _]) fb_H_isWeight lk_H_85 sm_H_isWeight (c_isW_y hx) rfl rfl (Nat.le_of_ble_eq_true rfl) (by decide) (by decide) (Nat.le_refl _) (Nat.le_refl _) d_H_weight_24 (fun v h1 hp => ?_)
      obtain ⟨rfl, rfl⟩ := hp
      refine a_if_neN X 33 (by omega) d_H_weight_27 (by decide) (fun c27 => ?_) (fun c27 => ?_)
      ·
        refine a_aload_n X 0 d_H_weight_33 rfl rfl ?_
        refine a_callV X (a := 0) (As := []) hq_0 rfl fb_H_forgetWays lk_H_74 im_H_forgetWays se_H_forgetWays (c_fgw) rfl rfl (Nat.le_of_ble_eq_true rfl) (by decide) (by decide) (Nat.le_refl _) (Nat.le_refl _) d_H_weight_34 (fun v h1 hp => ?_)
        obtain ⟨rfl, rfl⟩ := hp
        refine a_aload_n X 0 d_H_weight_37 rfl rfl ?_
        refine a_get X ff_H_19 d_H_weight_38 hq_0 rfl ?_
        refine a_get X ff_H_88 d_H_weight_41 hq_4 rfl ?_
        refine a_iload_n X 1 d_H_weight_44 rfl rfl ?_
        refine a_aald X d_H_weight_45 hq_5 rfl rfl (ab_ix_nI (by omega) (by decide)) (hg_wt (by omega)) ?_
        refine a_iload_n X 2 d_H_weight_46 rfl rfl ?_
        refine a_iald X d_H_weight_47 (hr_wt (by omega)) rfl (ab_ix_nI (by omega) (by decide)) ?_
        refine a_istore X d_H_weight_48 (by decide) ?_
        refine a_aload_n X 0 d_H_weight_50 rfl rfl ?_
        refine a_get X ff_H_19 d_H_weight_51 hq_0 rfl ?_
        refine a_get X ff_H_88 d_H_weight_54 hq_4 rfl ?_
        refine a_iload_n X 1 d_H_weight_57 rfl rfl ?_
        refine a_aald X d_H_weight_58 hq_5 rfl rfl (ab_ix_nI (by omega) (by decide)) (hg_wt (by omega)) ?_
        refine a_iload_n X 2 d_H_weight_59 rfl rfl ?_
        refine a_iload_n X 3 d_H_weight_60 rfl rfl ?_
        refine a_iast X d_H_weight_61 (hr_wt (by omega)) rfl (ab_ix_nI (by omega) (by decide)) ?_
        refine ab_hp (hw_wt (by omega)) ?_
        refine a_iload X d_H_weight_62 rfl ?_
        exact a_iret X d_H_weight_64 (Nat.le_refl _) (Nat.le_refl _) ⟨rfl, rfl⟩
      ·
        exfalso
        omega
    ·
      exfalso
      omega
set_option maxHeartbeats 4000000 in
set_option maxRecDepth 20000 in
theorem c_H_weight_s {E : ab_E} {l : Launch} {r : hR} {s : hS} {w c : hW} {b : hB} {d : hD} {k : hK} {t : hT} {Z : List ab_C} {a e x : Int32} (ha : a < 0 ∨ nI s.2.2 ≤ a) : ab_Con E l y_H_weight b_H_weight 5 (some .int) 1 21 [.ref 1, .int a, .int e, .int x] (hc r s w c b d k t ++ Z) 0 0 (fun v h1 => v = some (.int (-1)) ∧ h1 = hc r s w c b d k t ++ Z) := by
  refine ab_con (own := "HiddenRows") (ini := false) (by decide) (fun h => by cases h) rfl (Nat.le_of_ble_eq_true rfl) ?_
  intro G m X
  show ab_R E G m 5 0 0 0 [(0, .ref 1), (1, .int a), (2, .int e), (3, .int x)] [] (hc r s w c b d k t ++ Z)
  refine a_aload_n X 0 d_H_weight_0 rfl rfl ?_
  refine a_get X ff_H_19 d_H_weight_1 hq_0 rfl ?_
  refine a_iload_n X 1 d_H_weight_4 rfl rfl ?_
  refine a_callV X (a := 4) (As := [.int _]) hq_4 rfl fb_St_has lk_H_81 im_St_has se_St_has (c_St_has_n ha) rfl rfl (Nat.le_of_ble_eq_true rfl) (by decide) (by decide) (Nat.le_refl _) (Nat.le_refl _) d_H_weight_5 (fun v h1 hp => ?_)
  obtain ⟨rfl, rfl⟩ := hp
  refine a_if_eqN X 21 (by omega) d_H_weight_8 (by decide) (fun c8 => ?_) (fun c8 => ?_)
  ·
    refine a_iconst X (v := -1) d_H_weight_21 (by decide) ?_
    exact a_iret X d_H_weight_22 (Nat.le_refl _) (Nat.le_refl _) ⟨rfl, rfl⟩
  ·
    exfalso
    omega
set_option maxHeartbeats 4000000 in
set_option maxRecDepth 20000 in
theorem c_H_weight_w {E : ab_E} {l : Launch} {r : hR} {s : hS} {w c : hW} {b : hB} {d : hD} {k : hK} {t : hT} {Z : List ab_C} {j : Nat} {e x : Int32} (hq : s.2.2 ≤ 4) (hj : j < s.2.2) (he : e < 0 ∨ nI 9 ≤ e) : ab_Con E l y_H_weight b_H_weight 5 (some .int) 1 21 [.ref 1, .int (nI j), .int e, .int x] (hc r s w c b d k t ++ Z) 0 0 (fun v h1 => v = some (.int (-1)) ∧ h1 = hc r s w c b d k t ++ Z) := by
  refine ab_con (own := "HiddenRows") (ini := false) (by decide) (fun h => by cases h) rfl (Nat.le_of_ble_eq_true rfl) ?_
  intro G m X
  show ab_R E G m 5 0 0 0 [(0, .ref 1), (1, .int (nI j)), (2, .int e), (3, .int x)] [] (hc r s w c b d k t ++ Z)
  refine a_aload_n X 0 d_H_weight_0 rfl rfl ?_
  refine a_get X ff_H_19 d_H_weight_1 hq_0 rfl ?_
  refine a_iload_n X 1 d_H_weight_4 rfl rfl ?_
  refine a_callV X (a := 4) (As := [.int _]) hq_4 rfl fb_St_has lk_H_81 im_St_has se_St_has (c_St_has_y hj hq) rfl rfl (Nat.le_of_ble_eq_true rfl) (by decide) (by decide) (Nat.le_refl _) (Nat.le_refl _) d_H_weight_5 (fun v h1 hp => ?_)
  obtain ⟨rfl, rfl⟩ := hp
  refine a_if_eqN X 21 (by omega) d_H_weight_8 (by decide) (fun c8 => ?_) (fun c8 => ?_)
  ·
    exfalso
    omega
  ·
    refine a_iload_n X 2 d_H_weight_11 rfl rfl ?_
    refine a_if_lt X 21 d_H_weight_12 (by decide) (fun c12 => ?_) (fun c12 => ?_)
    ·
      refine a_iconst X (v := -1) d_H_weight_21 (by decide) ?_
      exact a_iret X d_H_weight_22 (Nat.le_refl _) (Nat.le_refl _) ⟨rfl, rfl⟩
    ·
      refine a_iload_n X 2 d_H_weight_15 rfl rfl ?_
      refine a_bipush X (v := nI 9) d_H_weight_16 (by decide) ?_
      refine a_icmp_lt X 23 d_H_weight_18 (by decide) (fun c18 => ?_) (fun c18 => ?_)
      ·
        exfalso
        rcases he with q | q
        · exact c12 q
        · exact absurd c18 (fun z => by have := Int32.not_lt.mpr q; exact this z)
      ·
        refine a_iconst X (v := -1) d_H_weight_21 (by decide) ?_
        exact a_iret X d_H_weight_22 (Nat.le_refl _) (Nat.le_refl _) ⟨rfl, rfl⟩
set_option maxHeartbeats 4000000 in
set_option maxRecDepth 20000 in
theorem c_H_weight_x {E : ab_E} {l : Launch} {r : hR} {s : hS} {w c : hW} {b : hB} {d : hD} {k : hK} {t : hT} {Z : List ab_C} {j z : Nat} {x : Int32} (hq : s.2.2 ≤ 4) (hj : j < s.2.2) (hz : z < 9) (hx : x < 0 ∨ nI 4 < x) : ab_Con E l y_H_weight b_H_weight 5 (some .int) 1 21 [.ref 1, .int (nI j), .int (nI z), .int x] (hc r s w c b d k t ++ Z) 0 0 (fun v h1 => v = some (.int (-2)) ∧ h1 = hc r s w c b d k t ++ Z) := by
  refine ab_con (own := "HiddenRows") (ini := false) (by decide) (fun h => by cases h) rfl (Nat.le_of_ble_eq_true rfl) ?_
  intro G m X
  show ab_R E G m 5 0 0 0 [(0, .ref 1), (1, .int (nI j)), (2, .int (nI z)), (3, .int x)] [] (hc r s w c b d k t ++ Z)
  refine a_aload_n X 0 d_H_weight_0 rfl rfl ?_
  refine a_get X ff_H_19 d_H_weight_1 hq_0 rfl ?_
  refine a_iload_n X 1 d_H_weight_4 rfl rfl ?_
  refine a_callV X (a := 4) (As := [.int _]) hq_4 rfl fb_St_has lk_H_81 im_St_has se_St_has (c_St_has_y hj hq) rfl rfl (Nat.le_of_ble_eq_true rfl) (by decide) (by decide) (Nat.le_refl _) (Nat.le_refl _) d_H_weight_5 (fun v h1 hp => ?_)
  obtain ⟨rfl, rfl⟩ := hp
  refine a_if_eqN X 21 (by omega) d_H_weight_8 (by decide) (fun c8 => ?_) (fun c8 => ?_)
  ·
    exfalso
    omega
  ·
    refine a_iload_n X 2 d_H_weight_11 rfl rfl ?_
    refine a_if_ltN X 21 (by omega) d_H_weight_12 (by decide) ?_
    refine a_iload_n X 2 d_H_weight_15 rfl rfl ?_
    refine a_bipush X (v := nI 9) d_H_weight_16 (by decide) ?_
    refine a_icmp_ltN X 23 (by omega) (by omega) d_H_weight_18 (by decide) (fun c18 => ?_) (fun c18 => ?_)
    ·
      refine a_iload_n X 3 d_H_weight_23 rfl rfl ?_
      refine a_callS X (As := [.int _]) fb_H_isWeight lk_H_85 sm_H_isWeight (c_isW_n hx) rfl rfl (Nat.le_of_ble_eq_true rfl) (by decide) (by decide) (Nat.le_refl _) (Nat.le_refl _) d_H_weight_24 (fun v h1 hp => ?_)
      obtain ⟨rfl, rfl⟩ := hp
      refine a_if_neN X 33 (by omega) d_H_weight_27 (by decide) (fun c27 => ?_) (fun c27 => ?_)
      ·
        exfalso
        omega
      ·
        refine a_bipush X (v := -2) d_H_weight_30 (by decide) ?_
        exact a_iret X d_H_weight_32 (Nat.le_refl _) (Nat.le_refl _) ⟨rfl, rfl⟩
    ·
      exfalso
      omega
