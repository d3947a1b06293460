def leaR (k : hK) (kd : Nat) (x : Int32) : Nat := if x = -1 then sumR (fun y => k.2.1 kd y) 0 4 else k.2.1 kd x.toNatClampNeg
set_option maxHeartbeats 4000000 in
set_option maxRecDepth 20000 in
theorem c_gcd {E : ab_E} {l : Launch} {Z : List ab_C} {a b : Nat} (ha : a < 2 ^ 63) (hb : b < 2 ^ 63) : ab_Con E l y_H_commonDivisor b_H_commonDivisor 11 (some .long) 0 0 [.long (lN a), .long (lN b)] (Z) 0 0 (fun v h1 => v = some (.long (lN (Nat.gcd a b))) ∧ h1 = Z) := by
  refine ab_con (own := "HiddenRows") (ini := false) (by decide) (fun h => by cases h) rfl (Nat.le_of_ble_eq_true rfl) ?_
  intro G m X
  show ab_R E G m 11 0 0 0 [(0, .long (lN a)), (2, .long (lN b))] [] (Z)
  refine a_lload_n X 0 d_H_commonDivisor_0 rfl rfl ?_
  refine a_lstore X d_H_commonDivisor_1 (by decide) ?_
  refine a_lload_n X 2 d_H_commonDivisor_3 rfl rfl ?_
  refine a_lstore X d_H_commonDivisor_4 (by decide) ?_
  refine a_iconst X (v := nI 0) d_H_commonDivisor_6 (by decide) ?_
  refine a_istore X d_H_commonDivisor_7 (by decide) ?_
  refine ab_sub [(0, .long (lN a)), (2, .long (lN b)), (4, .long (lN a)), (6, .long (lN b)), (8, .int (nI 0))] rfl ?_
  suffices LP : ∀ (mm i g le : Nat), g < 2 ^ 63 → le < 2 ^ 63 → Nat.gcd g le = Nat.gcd a b → i + mm = 100 → euE mm g le → ab_R E G m 11 0 0 9 [(0, .long (lN a)), (2, .long (lN b)), (4, .long (lN g)), (6, .long (lN le)), (8, .int (nI i))] [] (Z) from LP 100 0 a b ha hb rfl rfl (eu_100 hb)
  intro mm
  induction mm with
  | zero =>
    intro i g le hg hl hgc hi he
    refine a_iload X d_H_commonDivisor_9 rfl ?_
    refine a_bipush X (v := nI 100) d_H_commonDivisor_11 (by decide) ?_
    refine a_icmp_geN X 44 (by omega) (by omega) d_H_commonDivisor_13 (by decide) (fun c13 => ?_) (fun c13 => ?_)
    ·
      have h0 : le = 0 := he
      refine a_lload X d_H_commonDivisor_44 rfl ?_
      exact a_lret X d_H_commonDivisor_46 (Nat.le_refl _) (Nat.le_refl _) ⟨by rw [← hgc, h0, Nat.gcd_zero_right], rfl⟩
    ·
      exfalso
      omega
  | succ mm ih =>
    intro i g le hg hl hgc hi he
    refine a_iload X d_H_commonDivisor_9 rfl ?_
    refine a_bipush X (v := nI 100) d_H_commonDivisor_11 (by decide) ?_
    refine a_icmp_geN X 44 (by omega) (by omega) d_H_commonDivisor_13 (by decide) (fun c13 => ?_) (fun c13 => ?_)
    ·
      exfalso
      omega
    ·
      refine a_lload X d_H_commonDivisor_16 rfl ?_
      refine a_lconst X (v := lN 0) d_H_commonDivisor_18 (by decide) ?_
      refine a_lc_eq X 44 (by omega) (by omega) d_H_commonDivisor_19 d_H_commonDivisor_20 (by decide) (fun c19 => ?_) (fun c19 => ?_)
      ·
        have h0 : le = 0 := c19
        refine a_lload X d_H_commonDivisor_44 rfl ?_
        exact a_lret X d_H_commonDivisor_46 (Nat.le_refl _) (Nat.le_refl _) ⟨by rw [← hgc, h0, Nat.gcd_zero_right], rfl⟩
      ·
        refine a_lload X d_H_commonDivisor_23 rfl ?_
        refine a_lload X d_H_commonDivisor_25 rfl ?_
        refine a_lrem X d_H_commonDivisor_27 (fun q => c19 ((pk_lEQ hl (by omega)).mp q)) ?_
        refine ab_topl (pk_lRem hg (by omega) hl) ?_
        refine a_lstore X d_H_commonDivisor_28 (by decide) ?_
        refine a_lload X d_H_commonDivisor_30 rfl ?_
        refine a_lstore X d_H_commonDivisor_32 (by decide) ?_
        refine a_lload X d_H_commonDivisor_34 rfl ?_
        refine a_lstore X d_H_commonDivisor_36 (by decide) ?_
        refine a_incN X d_H_commonDivisor_38 rfl (by decide) ?_
        refine a_goto X 9 d_H_commonDivisor_41 (by decide) ?_
        have hm : g % le < le := Nat.mod_lt _ (by omega)
        refine ab_sub [(0, .long (lN a)), (2, .long (lN b)), (4, .long (lN le)), (6, .long (lN (g % le))), (8, .int (nI (i + 1)))] rfl ?_
        exact ih (i + 1) le (g % le) hl (by omega) (by rw [← hgc, Nat.gcd_comm g le, Nat.gcd_rec le g, Nat.gcd_comm]) (by omega) (he.resolve_left c19)
set_option maxHeartbeats 4000000 in
set_option maxRecDepth 20000 in
theorem c_low {E : ab_E} {l : Launch} {Z : List ab_C} {a b pt : Nat} (ha : a < 2 ^ 63) (hb : b < 2 ^ 63) (hpt : pt ≤ 1) : ab_Con E l y_H_lowestTerms b_H_lowestTerms 7 (some .long) 1 30 [.long (lN a), .long (lN b), .int (nI pt)] (Z) 0 0 (fun v h1 => v = some (.long (lowR a b pt)) ∧ h1 = Z) := by
  refine ab_con (own := "HiddenRows") (ini := false) (by decide) (fun h => by cases h) rfl (Nat.le_of_ble_eq_true rfl) ?_
  intro G m X
  show ab_R E G m 7 0 0 0 [(0, .long (lN a)), (2, .long (lN b)), (4, .int (nI pt))] [] (Z)
  refine a_lload_n X 2 d_H_lowestTerms_0 rfl rfl ?_
  refine a_lconst X (v := lN 0) d_H_lowestTerms_1 (by decide) ?_
  refine a_lc_gt X 10 (by omega) (by omega) d_H_lowestTerms_2 d_H_lowestTerms_3 (by decide) (fun c2 => ?_) (fun c2 => ?_)
  ·
    refine a_lload_n X 0 d_H_lowestTerms_10 rfl rfl ?_
    refine a_lload_n X 2 d_H_lowestTerms_11 rfl rfl ?_
    refine a_callS X (As := [.long (lN a), .long (lN b)]) fb_H_commonDivisor lk_H_198 sm_H_commonDivisor (c_gcd ha hb) rfl rfl (Nat.le_of_ble_eq_true rfl) (by decide) (by decide) (Nat.le_refl _) (Nat.le_refl _) d_H_lowestTerms_12 (fun v h1 hp => ?_)
    obtain ⟨rfl, rfl⟩ := hp
    have hgp : 0 < Nat.gcd a b := Nat.gcd_pos_of_pos_right a (by omega)
    have hgl : Nat.gcd a b ≤ b := Nat.gcd_le_right a (by omega)
    refine a_lstore X d_H_lowestTerms_15 (by decide) ?_
    refine a_lload X d_H_lowestTerms_17 rfl ?_
    refine a_lconst X (v := lN 0) d_H_lowestTerms_19 (by decide) ?_
    refine a_lc_gt X 28 (by omega) (by omega) d_H_lowestTerms_20 d_H_lowestTerms_21 (by decide) (fun c20 => ?_) (fun c20 => ?_)
    ·
      refine a_iload X d_H_lowestTerms_28 rfl ?_
      refine a_if_neN X 40 (by omega) d_H_lowestTerms_30 (by decide) (fun c30 => ?_) (fun c30 => ?_)
      ·
        refine a_lload_n X 2 d_H_lowestTerms_40 rfl rfl ?_
        refine a_lload X d_H_lowestTerms_41 rfl ?_
        refine a_ldiv X d_H_lowestTerms_43 (fun q => by have := (pk_lEQ (b := 0) (show Nat.gcd a b < 2 ^ 63 by omega) (by omega)).mp q; omega) ?_
        refine ab_topl (pk_lDiv hb hgp (by omega)) ?_
        exact a_lret X d_H_lowestTerms_44 (Nat.le_refl _) (Nat.le_refl _) ⟨by unfold lowR; rw [if_neg (by omega)]; first | rw [if_pos (by omega)] | rw [if_neg (by omega)], rfl⟩
      ·
        refine a_lload_n X 0 d_H_lowestTerms_33 rfl rfl ?_
        refine a_lload X d_H_lowestTerms_34 rfl ?_
        refine a_ldiv X d_H_lowestTerms_36 (fun q => by have := (pk_lEQ (b := 0) (show Nat.gcd a b < 2 ^ 63 by omega) (by omega)).mp q; omega) ?_
        refine ab_topl (pk_lDiv ha hgp (by omega)) ?_
        refine a_goto X 44 d_H_lowestTerms_37 (by decide) ?_
        exact a_lret X d_H_lowestTerms_44 (Nat.le_refl _) (Nat.le_refl _) ⟨by unfold lowR; rw [if_neg (by omega)]; first | rw [if_pos (by omega)] | rw [if_neg (by omega)], rfl⟩
    ·
      exfalso
      omega
  ·
    refine a_ldc2 X kc_H_157 d_H_lowestTerms_6 ?_
    exact a_lret X d_H_lowestTerms_9 (Nat.le_refl _) (Nat.le_refl _) ⟨by unfold lowR; rw [if_pos (by omega)], rfl⟩
set_option maxHeartbeats 4000000 in
set_option maxRecDepth 20000 in
theorem c_isW_y {E : ab_E} {l : Launch} {Z : List ab_C} {x : Nat} (hx : x ≤ 4) : ab_Con E l y_H_isWeight b_H_isWeight 1 (some .boolean) 0 0 [.int (nI x)] (Z) 0 0 (fun v h1 => v = some (.int (nI 1)) ∧ h1 = Z) := by
  refine ab_con (own := "HiddenRows") (ini := false) (by decide) (fun h => by cases h) rfl (Nat.le_of_ble_eq_true rfl) ?_
  intro G m X
  show ab_R E G m 1 0 0 0 [(0, .int (nI x))] [] (Z)
  refine a_iload_n X 0 d_H_isWeight_0 rfl rfl ?_
  refine a_if_ltN X 13 (by omega) d_H_isWeight_1 (by decide) ?_
  refine a_iload_n X 0 d_H_isWeight_4 rfl rfl ?_
  refine a_iconst X (v := nI 4) d_H_isWeight_5 (by decide) ?_
  refine a_icmp_gtN X 13 (by omega) (by omega) d_H_isWeight_6 (by decide) (fun c6 => ?_) (fun c6 => ?_)
  ·
    exfalso
    omega
  ·
    refine a_iconst X (v := nI 1) d_H_isWeight_9 (by decide) ?_
    refine a_goto X 14 d_H_isWeight_10 (by decide) ?_
    exact a_zret X rfl d_H_isWeight_14 (Nat.le_refl _) (Nat.le_refl _) ⟨rfl, rfl⟩
set_option maxHeartbeats 4000000 in
set_option maxRecDepth 20000 in
theorem c_isW_n {E : ab_E} {l : Launch} {Z : List ab_C} {x : Int32} (hx : x < 0 ∨ nI 4 < x) : ab_Con E l y_H_isWeight b_H_isWeight 1 (some .boolean) 0 0 [.int x] (Z) 0 0 (fun v h1 => v = some (.int (nI 0)) ∧ h1 = Z) := by
  refine ab_con (own := "HiddenRows") (ini := false) (by decide) (fun h => by cases h) rfl (Nat.le_of_ble_eq_true rfl) ?_
  intro G m X
  show ab_R E G m 1 0 0 0 [(0, .int x)] [] (Z)
  refine a_iload_n X 0 d_H_isWeight_0 rfl rfl ?_
  refine a_if_lt X 13 d_H_isWeight_1 (by decide) (fun c1 => ?_) (fun c1 => ?_)
  ·
    refine a_iconst X (v := nI 0) d_H_isWeight_13 (by decide) ?_
    exact a_zret X rfl d_H_isWeight_14 (Nat.le_refl _) (Nat.le_refl _) ⟨rfl, rfl⟩
  ·
    refine a_iload_n X 0 d_H_isWeight_4 rfl rfl ?_
    refine a_iconst X (v := nI 4) d_H_isWeight_5 (by decide) ?_
    refine a_icmp_gt X 13 d_H_isWeight_6 (by decide) (fun c6 => ?_) (fun c6 => ?_)
    ·
      refine a_iconst X (v := nI 0) d_H_isWeight_13 (by decide) ?_
      exact a_zret X rfl d_H_isWeight_14 (Nat.le_refl _) (Nat.le_refl _) ⟨rfl, rfl⟩
    ·
      exfalso
      rcases hx with q | q
      · exact c1 q
      · exact c6 q
set_option maxHeartbeats 4000000 in
set_option maxRecDepth 20000 in
theorem c_isP_y {E : ab_E} {l : Launch} {Z : List ab_C} {x : Nat} (hx : x ≤ 1) : ab_Con E l y_H_isPart b_H_isPart 1 (some .boolean) 0 0 [.int (nI x)] (Z) 0 0 (fun v h1 => v = some (.int (nI 1)) ∧ h1 = Z) := by
  refine ab_con (own := "HiddenRows") (ini := false) (by decide) (fun h => by cases h) rfl (Nat.le_of_ble_eq_true rfl) ?_
  intro G m X
  show ab_R E G m 1 0 0 0 [(0, .int (nI x))] [] (Z)
  refine a_iload_n X 0 d_H_isPart_0 rfl rfl ?_
  refine a_if_eqN X 9 (by omega) d_H_isPart_1 (by decide) (fun c1 => ?_) (fun c1 => ?_)
  ·
    refine a_iconst X (v := nI 1) d_H_isPart_9 (by decide) ?_
    refine a_goto X 14 d_H_isPart_10 (by decide) ?_
    exact a_zret X rfl d_H_isPart_14 (Nat.le_refl _) (Nat.le_refl _) ⟨rfl, rfl⟩
  ·
    refine a_iload_n X 0 d_H_isPart_4 rfl rfl ?_
    refine a_iconst X (v := nI 1) d_H_isPart_5 (by decide) ?_
    refine a_icmp_neN X 13 (by omega) (by omega) d_H_isPart_6 (by decide) (fun c6 => ?_) (fun c6 => ?_)
    ·
      exfalso
      omega
    ·
      refine a_iconst X (v := nI 1) d_H_isPart_9 (by decide) ?_
      refine a_goto X 14 d_H_isPart_10 (by decide) ?_
      exact a_zret X rfl d_H_isPart_14 (Nat.le_refl _) (Nat.le_refl _) ⟨rfl, rfl⟩
set_option maxHeartbeats 4000000 in
set_option maxRecDepth 20000 in
theorem c_isP_n {E : ab_E} {l : Launch} {Z : List ab_C} {x : Int32} (hx : x ≠ 0 ∧ x ≠ nI 1) : ab_Con E l y_H_isPart b_H_isPart 1 (some .boolean) 0 0 [.int x] (Z) 0 0 (fun v h1 => v = some (.int (nI 0)) ∧ h1 = Z) := by
  refine ab_con (own := "HiddenRows") (ini := false) (by decide) (fun h => by cases h) rfl (Nat.le_of_ble_eq_true rfl) ?_
  intro G m X
  show ab_R E G m 1 0 0 0 [(0, .int x)] [] (Z)
  refine a_iload_n X 0 d_H_isPart_0 rfl rfl ?_
  refine a_if_eq X 9 d_H_isPart_1 (by decide) (fun c1 => ?_) (fun c1 => ?_)
  ·
    exfalso
    exact hx.1 c1
  ·
    refine a_iload_n X 0 d_H_isPart_4 rfl rfl ?_
    refine a_iconst X (v := nI 1) d_H_isPart_5 (by decide) ?_
    refine a_icmp_ne X 13 d_H_isPart_6 (by decide) (fun c6 => ?_) (fun c6 => ?_)
    ·
      refine a_iconst X (v := nI 0) d_H_isPart_13 (by decide) ?_
      exact a_zret X rfl d_H_isPart_14 (Nat.le_refl _) (Nat.le_refl _) ⟨rfl, rfl⟩
    ·
      exfalso
      exact hx.2 c6
set_option maxHeartbeats 4000000 in
set_option maxRecDepth 20000 in
theorem c_Ki_parts {E : ab_E} {l : Launch} {Z : List ab_C} {x y : Nat} : ab_Con E l y_Ki_parts b_Ki_parts 2 (some .int) 0 0 [.int (nI x), .int (nI y)] (Z) 0 0 (fun v h1 => v = some (.int (nI (x * 4 + y))) ∧ h1 = Z) := by
  refine ab_con (own := "HiddenRows$Kinds") (ini := false) (by decide) (fun h => by cases h) rfl (Nat.le_of_ble_eq_true rfl) ?_
  intro G m X
  show ab_R E G m 2 0 0 0 [(0, .int (nI x)), (1, .int (nI y))] [] (Z)
  refine a_iload_n X 0 d_Ki_parts_0 rfl rfl ?_
  refine a_iconst X (v := nI 4) d_Ki_parts_1 (by decide) ?_
  refine a_imul X d_Ki_parts_2 ?_
  refine ab_topi (pk_mul _ _) ?_
  refine a_iload_n X 1 d_Ki_parts_3 rfl rfl ?_
  refine a_iadd X d_Ki_parts_4 ?_
  refine ab_topi (nI_add _ _) ?_
  exact a_iret X d_Ki_parts_5 (Nat.le_refl _) (Nat.le_refl _) ⟨rfl, rfl⟩
set_option maxHeartbeats 4000000 in
set_option maxRecDepth 20000 in
theorem c_Tt_spanOf {E : ab_E} {l : Launch} {Z : List ab_C} {x y : Nat} : ab_Con E l y_Tt_spanOf b_Tt_spanOf 2 (some .int) 0 0 [.int (nI x), .int (nI y)] (Z) 0 0 (fun v h1 => v = some (.int (nI (x * 6 + y))) ∧ h1 = Z) := by
  refine ab_con (own := "HiddenRows$TreeTables") (ini := false) (by decide) (fun h => by cases h) rfl (Nat.le_of_ble_eq_true rfl) ?_
  intro G m X
  show ab_R E G m 2 0 0 0 [(0, .int (nI x)), (1, .int (nI y))] [] (Z)
  refine a_iload_n X 0 d_Tt_spanOf_0 rfl rfl ?_
  refine a_bipush X (v := nI 6) d_Tt_spanOf_1 (by decide) ?_
  refine a_imul X d_Tt_spanOf_3 ?_
  refine ab_topi (pk_mul _ _) ?_
  refine a_iload_n X 1 d_Tt_spanOf_4 rfl rfl ?_
  refine a_iadd X d_Tt_spanOf_5 ?_
  refine ab_topi (nI_add _ _) ?_
  exact a_iret X d_Tt_spanOf_6 (Nat.le_refl _) (Nat.le_refl _) ⟨rfl, rfl⟩
set_option maxHeartbeats 4000000 in
set_option maxRecDepth 20000 in
theorem c_app {E : ab_E} {l : Launch} {r : hR} {s : hS} {w c : hW} {b : hB} {d : hD} {k : hK} {t : hT} {Z : List ab_C} {x : Int32} (hn : r.2.2 < 6) : ab_Con E l y_Ro_append b_Ro_append 2 none 0 0 [.ref 2, .int x] (hc r s w c b d k t ++ Z) 0 0 (fun v h1 => v = none ∧ h1 = hc (upd r.1 r.2.2 x, upd r.2.1 r.2.2 (-1), r.2.2 + 1) s w c b d k t ++ Z) := by
  refine ab_con (own := "HiddenRows$Row") (ini := false) (by decide) (fun h => by cases h) rfl (Nat.le_of_ble_eq_true rfl) ?_
  intro G m X
  show ab_R E G m 2 0 0 0 [(0, .ref 2), (1, .int x)] [] (hc r s w c b d k t ++ Z)
  refine a_aload_n X 0 d_Ro_append_0 rfl rfl ?_
  refine a_get X ff_Ro_18 d_Ro_append_1 hq_1 rfl ?_
  refine a_bipush X (v := nI 6) d_Ro_append_4 (by decide) ?_
  refine a_icmp_ltN X 10 (by omega) (by omega) d_Ro_append_6 (by decide) (fun c6 => ?_) (fun c6 => ?_)
  ·
    refine a_aload_n X 0 d_Ro_append_10 rfl rfl ?_
    refine a_get X ff_Ro_9 d_Ro_append_11 hq_1 rfl ?_
    refine a_aload_n X 0 d_Ro_append_14 rfl rfl ?_
    refine a_get X ff_Ro_18 d_Ro_append_15 hq_1 rfl ?_
    refine a_iload_n X 1 d_Ro_append_18 rfl rfl ?_
    refine a_iast X d_Ro_append_19 hq_2 rfl (ab_ix_nI (by omega) (by decide)) ?_
    refine ab_hp hs_rs ?_
    refine a_aload_n X 0 d_Ro_append_20 rfl rfl ?_
    refine a_get X ff_Ro_15 d_Ro_append_21 hq_1 rfl ?_
    refine a_aload_n X 0 d_Ro_append_24 rfl rfl ?_
    refine a_get X ff_Ro_18 d_Ro_append_25 hq_1 rfl ?_
    refine a_iconst X (v := -1) d_Ro_append_28 (by decide) ?_
    refine a_iast X d_Ro_append_29 hq_3 rfl (ab_ix_nI (by omega) (by decide)) ?_
    refine ab_hp hs_rh ?_
    refine a_aload_n X 0 d_Ro_append_30 rfl rfl ?_
    refine a_dup X d_Ro_append_31 rfl ?_
    refine a_get X ff_Ro_18 d_Ro_append_32 hq_1 rfl ?_
    refine a_iconst X (v := nI 1) d_Ro_append_35 (by decide) ?_
    refine a_iadd X d_Ro_append_36 ?_
    refine ab_topi (nI_add _ _) ?_
    refine a_put X ff_Ro_18 d_Ro_append_37 hq_1 (Nat.le_of_ble_eq_true rfl) rfl rfl ?_
    refine ab_hp hs_rl ?_
    exact a_vret X d_Ro_append_40 (Nat.le_refl _) (Nat.le_refl _) ⟨rfl, rfl⟩
  ·
    exfalso
    omega
set_option maxHeartbeats 4000000 in
set_option maxRecDepth 20000 in
theorem c_tat {E : ab_E} {l : Launch} {r : hR} {s : hS} {w c : hW} {b : hB} {d : hD} {k : hK} {t : hT} {Z : List ab_C} {x p : Nat} (hn : r.2.2 ≤ 6) (hx : x < 2 ^ 31) (hp : p < r.2.2) : ab_Con E l y_Ro_toldAt b_Ro_toldAt 3 (some .int) 0 0 [.ref 2, .int (nI x), .int (nI p)] (hc r s w c b d k t ++ Z) 0 0 (fun v h1 => v = some (.int (nI (x / 2 ^ (3 * (r.2.2 - 1 - p)) % 8))) ∧ h1 = hc r s w c b d k t ++ Z) := by
  refine ab_con (own := "HiddenRows$Row") (ini := false) (by decide) (fun h => by cases h) rfl (Nat.le_of_ble_eq_true rfl) ?_
  intro G m X
  show ab_R E G m 3 0 0 0 [(0, .ref 2), (1, .int (nI x)), (2, .int (nI p))] [] (hc r s w c b d k t ++ Z)
  refine a_iload_n X 1 d_Ro_toldAt_0 rfl rfl ?_
  refine a_iconst X (v := nI 3) d_Ro_toldAt_1 (by decide) ?_
  refine a_aload_n X 0 d_Ro_toldAt_2 rfl rfl ?_
  refine a_get X ff_Ro_18 d_Ro_toldAt_3 hq_1 rfl ?_
  refine a_iconst X (v := nI 1) d_Ro_toldAt_6 (by decide) ?_
  refine a_isub X d_Ro_toldAt_7 ?_
  refine ab_topi (pk_sub (by omega)) ?_
  refine a_iload_n X 2 d_Ro_toldAt_8 rfl rfl ?_
  refine a_isub X d_Ro_toldAt_9 ?_
  refine ab_topi (pk_sub (by omega)) ?_
  refine a_imul X d_Ro_toldAt_10 ?_
  refine ab_topi (pk_mul _ _) ?_
  refine a_ishr X d_Ro_toldAt_11 ?_
  refine ab_topi (sh_r (by omega) (by omega)) ?_
  refine a_bipush X (v := nI 7) d_Ro_toldAt_12 (by decide) ?_
  refine a_iand X d_Ro_toldAt_14 ?_
  refine ab_topi (sh_7 (Nat.lt_of_le_of_lt (Nat.div_le_self _ _) (by omega))) ?_
  exact a_iret X d_Ro_toldAt_15 (Nat.le_refl _) (Nat.le_refl _) ⟨rfl, rfl⟩
set_option maxHeartbeats 4000000 in
set_option maxRecDepth 20000 in
theorem c_add1 {E : ab_E} {l : Launch} {r : hR} {s : hS} {w c : hW} {b : hB} {d : hD} {k : hK} {t : hT} {Z : List ab_C} (hq : s.2.2 < 4) : ab_Con E l y_St_addOne b_St_addOne 1 (some .int) 0 0 [.ref 5] (hc r s w c b d k t ++ Z) 0 0 (fun v h1 => v = some (.int (nI s.2.2)) ∧ h1 = hc r (up2 (up2 (up2 s.1 s.2.2 0 1) s.2.2 1 1) s.2.2 2 1, s.2.1, s.2.2 + 1) w c b d k t ++ Z) := by
  refine ab_con (own := "HiddenRows$States") (ini := false) (by decide) (fun h => by cases h) rfl (Nat.le_of_ble_eq_true rfl) ?_
  intro G m X
  show ab_R E G m 1 0 0 0 [(0, .ref 5)] [] (hc r s w c b d k t ++ Z)
  refine a_aload_n X 0 d_St_addOne_0 rfl rfl ?_
  refine a_get X ff_St_19 d_St_addOne_1 hq_4 rfl ?_
  refine a_iconst X (v := nI 4) d_St_addOne_4 (by decide) ?_
  refine a_icmp_ltN X 11 (by omega) (by omega) d_St_addOne_5 (by decide) (fun c5 => ?_) (fun c5 => ?_)
  ·
    refine a_aload_n X 0 d_St_addOne_11 rfl rfl ?_
    refine a_get X ff_St_11 d_St_addOne_12 hq_4 rfl ?_
    refine a_aload_n X 0 d_St_addOne_15 rfl rfl ?_
    refine a_get X ff_St_19 d_St_addOne_16 hq_4 rfl ?_
    refine a_aald X d_St_addOne_19 hq_5 rfl rfl (ab_ix_nI (by omega) (by decide)) (hg_wt (by omega)) ?_
    refine a_iconst X (v := nI 0) d_St_addOne_20 (by decide) ?_
    refine a_iconst X (v := nI 1) d_St_addOne_21 (by decide) ?_
    refine a_iast X d_St_addOne_22 (hr_wt (by omega)) rfl (ab_ix_nI (by omega) (by decide)) ?_
    refine ab_hp (hw_wt (by omega)) ?_
    refine a_aload_n X 0 d_St_addOne_23 rfl rfl ?_
    refine a_get X ff_St_11 d_St_addOne_24 hq_4 rfl ?_
    refine a_aload_n X 0 d_St_addOne_27 rfl rfl ?_
    refine a_get X ff_St_19 d_St_addOne_28 hq_4 rfl ?_
    refine a_aald X d_St_addOne_31 hq_5 rfl rfl (ab_ix_nI (by omega) (by decide)) (hg_wt (by omega)) ?_
    refine a_iconst X (v := nI 1) d_St_addOne_32 (by decide) ?_
    refine a_iconst X (v := nI 1) d_St_addOne_33 (by decide) ?_
    refine a_iast X d_St_addOne_34 (hr_wt (by omega)) rfl (ab_ix_nI (by omega) (by decide)) ?_
    refine ab_hp (hw_wt (by omega)) ?_
    refine a_aload_n X 0 d_St_addOne_35 rfl rfl ?_
    refine a_get X ff_St_11 d_St_addOne_36 hq_4 rfl ?_
    refine a_aload_n X 0 d_St_addOne_39 rfl rfl ?_
    refine a_get X ff_St_19 d_St_addOne_40 hq_4 rfl ?_
    refine a_aald X d_St_addOne_43 hq_5 rfl rfl (ab_ix_nI (by omega) (by decide)) (hg_wt (by omega)) ?_
    refine a_iconst X (v := nI 2) d_St_addOne_44 (by decide) ?_
    refine a_iconst X (v := nI 1) d_St_addOne_45 (by decide) ?_
    refine a_iast X d_St_addOne_46 (hr_wt (by omega)) rfl (ab_ix_nI (by omega) (by decide)) ?_
    refine ab_hp (hw_wt (by omega)) ?_
    refine a_aload_n X 0 d_St_addOne_47 rfl rfl ?_
    refine a_dup X d_St_addOne_48 rfl ?_
    refine a_get X ff_St_19 d_St_addOne_49 hq_4 rfl ?_
    refine a_iconst X (v := nI 1) d_St_addOne_52 (by decide) ?_
    refine a_iadd X d_St_addOne_53 ?_
    refine ab_topi (nI_add _ _) ?_
    refine a_put X ff_St_19 d_St_addOne_54 hq_4 (Nat.le_of_ble_eq_true rfl) rfl rfl ?_
    refine ab_hp hs_sq ?_
    refine a_aload_n X 0 d_St_addOne_57 rfl rfl ?_
    refine a_get X ff_St_19 d_St_addOne_58 hq_4 rfl ?_
    refine a_iconst X (v := nI 1) d_St_addOne_61 (by decide) ?_
    refine a_isub X d_St_addOne_62 ?_
    refine ab_topi (pk_sub (a := s.2.2 + 1) (b := 1) (by omega)) ?_
    exact a_iret X d_St_addOne_63 (Nat.le_refl _) (Nat.le_refl _) ⟨by rw [Nat.add_sub_cancel], rfl⟩
  ·
    exfalso
    omega
set_option maxHeartbeats 4000000 in
set_option maxRecDepth 20000 in
theorem c_fgw {E : ab_E} {l : Launch} {r : hR} {s : hS} {w c : hW} {b : hB} {d : hD} {k : hK} {t : hT} {Z : List ab_C}  : ab_Con E l y_H_forgetWays b_H_forgetWays 1 none 0 0 [.ref 1] (hc r s w c b d k t ++ Z) 0 0 (fun v h1 => v = none ∧ h1 = hc r s (w.1, w.2.1, w.2.2.1, w.2.2.2.1, w.2.2.2.2.1, 0) (c.1, c.2.1, c.2.2.1, c.2.2.2.1, c.2.2.2.2.1, 0) (b.1, 0) (d.1, d.2.1, d.2.2.1, d.2.2.2.1, d.2.2.2.2.1, 0) k t ++ Z) := by
  refine ab_con (own := "HiddenRows") (ini := false) (by decide) (fun h => by cases h) rfl (Nat.le_of_ble_eq_true rfl) ?_
  intro G m X
  show ab_R E G m 1 0 0 0 [(0, .ref 1)] [] (hc r s w c b d k t ++ Z)
  refine a_aload_n X 0 d_H_forgetWays_0 rfl rfl ?_
  refine a_get X ff_H_28 d_H_forgetWays_1 hq_0 rfl ?_
  refine a_iconst X (v := nI 0) d_H_forgetWays_4 (by decide) ?_
  refine a_put X ff_H_195 d_H_forgetWays_5 hq_15 (Nat.le_of_ble_eq_true rfl) rfl rfl ?_
  refine ab_hp hs_wk ?_
  refine a_aload_n X 0 d_H_forgetWays_8 rfl rfl ?_
  refine a_get X ff_H_32 d_H_forgetWays_9 hq_0 rfl ?_
  refine a_iconst X (v := nI 0) d_H_forgetWays_12 (by decide) ?_
  refine a_put X ff_H_195 d_H_forgetWays_13 hq_53 (Nat.le_of_ble_eq_true rfl) rfl rfl ?_
  refine ab_hp hs_ck ?_
  refine a_aload_n X 0 d_H_forgetWays_16 rfl rfl ?_
  refine a_get X ff_H_40 d_H_forgetWays_17 hq_0 rfl ?_
  refine a_iconst X (v := nI 0) d_H_forgetWays_20 (by decide) ?_
  refine a_put X ff_H_196 d_H_forgetWays_21 hq_91 (Nat.le_of_ble_eq_true rfl) rfl rfl ?_
  refine ab_hp hs_bk ?_
  refine a_aload_n X 0 d_H_forgetWays_24 rfl rfl ?_
  refine a_get X ff_H_47 d_H_forgetWays_25 hq_0 rfl ?_
  refine a_iconst X (v := nI 0) d_H_forgetWays_28 (by decide) ?_
  refine a_put X ff_H_173 d_H_forgetWays_29 hq_168 (Nat.le_of_ble_eq_true rfl) rfl rfl ?_
  refine ab_hp hs_d ?_
  exact a_vret X d_H_forgetWays_32 (Nat.le_refl _) (Nat.le_refl _) ⟨rfl, rfl⟩
set_option maxHeartbeats 4000000 in
set_option maxRecDepth 20000 in
theorem c_fgt {E : ab_E} {l : Launch} {r : hR} {s : hS} {w c : hW} {b : hB} {d : hD} {k : hK} {t : hT} {Z : List ab_C}  : ab_Con E l y_H_forgetTrees b_H_forgetTrees 1 none 0 0 [.ref 1] (hc r s w c b d k t ++ Z) 0 0 (fun v h1 => v = none ∧ h1 = hc r s w c b d k (t.1, t.2.1, t.2.2.1, t.2.2.2.1, t.2.2.2.2.1, t.2.2.2.2.2.1, t.2.2.2.2.2.2.1, 0) ++ Z) := by
  refine ab_con (own := "HiddenRows") (ini := false) (by decide) (fun h => by cases h) rfl (Nat.le_of_ble_eq_true rfl) ?_
  intro G m X
  show ab_R E G m 1 0 0 0 [(0, .ref 1)] [] (hc r s w c b d k t ++ Z)
  refine a_aload_n X 0 d_H_forgetTrees_0 rfl rfl ?_
  refine a_get X ff_H_63 d_H_forgetTrees_1 hq_0 rfl ?_
  refine a_iconst X (v := nI 0) d_H_forgetTrees_4 (by decide) ?_
  refine a_put X ff_H_197 d_H_forgetTrees_5 hq_180 (Nat.le_of_ble_eq_true rfl) rfl rfl ?_
  refine ab_hp hs_t ?_
  exact a_vret X d_H_forgetTrees_8 (Nat.le_refl _) (Nat.le_refl _) ⟨rfl, rfl⟩
set_option maxHeartbeats 4000000 in
set_option maxRecDepth 20000 in
theorem c_lof {E : ab_E} {l : Launch} {r : hR} {s : hS} {w c : hW} {b : hB} {d : hD} {k : hK} {t : hT} {Z : List ab_C} {kd : Nat} {x : Int32} (hkd : kd < 4) (hx : x = -1 ∨ ∃ z, z < 4 ∧ x = nI z) : ab_Con E l y_Ki_leafOf b_Ki_leafOf 5 (some .int) 0 0 [.ref 170, .int (nI kd), .int x] (hc r s w c b d k t ++ Z) 0 0 (fun v h1 => v = some (.int (nI (leaR k kd x))) ∧ h1 = hc r s w c b d k t ++ Z) := by
  refine ab_con (own := "HiddenRows$Kinds") (ini := false) (by decide) (fun h => by cases h) rfl (Nat.le_of_ble_eq_true rfl) ?_
  intro G m X
  show ab_R E G m 5 0 0 0 [(0, .ref 170), (1, .int (nI kd)), (2, .int x)] [] (hc r s w c b d k t ++ Z)
  refine a_iload_n X 2 d_Ki_leafOf_0 rfl rfl ?_
  refine a_iconst X (v := -1) d_Ki_leafOf_1 (by decide) ?_
  refine a_icmp_eq X 14 d_Ki_leafOf_2 (by decide) (fun c2 => ?_) (fun c2 => ?_)
  ·
    refine a_iconst X (v := nI 0) d_Ki_leafOf_14 (by decide) ?_
    refine a_istore_n X 3 d_Ki_leafOf_15 rfl (by decide) ?_
    refine a_iconst X (v := nI 0) d_Ki_leafOf_16 (by decide) ?_
    refine a_istore X d_Ki_leafOf_17 (by decide) ?_
    refine ab_sub [(0, .ref 170), (1, .int (nI kd)), (2, .int x), (3, .int (nI (sumR (fun y => k.2.1 kd y) 0 0))), (4, .int (nI 0))] rfl ?_
    suffices LP : ∀ (mm i : Nat), i ≤ 4 → 4 - i < mm → ab_R E G m 5 0 0 19 [(0, .ref 170), (1, .int (nI kd)), (2, .int x), (3, .int (nI (sumR (fun y => k.2.1 kd y) 0 i))), (4, .int (nI i))] [] (hc r s w c b d k t ++ Z) from LP 5 0 (by omega) (by omega)
    intro mm
    induction mm with
    | zero => intro i h1 h2; exfalso; omega
    | succ mm ih =>
      intro i h1 h2
      refine a_iload X d_Ki_leafOf_19 rfl ?_
      refine a_iconst X (v := nI 4) d_Ki_leafOf_21 (by decide) ?_
      refine a_icmp_geN X 43 (by omega) (by omega) d_Ki_leafOf_22 (by decide) (fun c22 => ?_) (fun c22 => ?_)
      ·
        refine a_iload_n X 3 d_Ki_leafOf_43 rfl rfl ?_
        exact a_iret X d_Ki_leafOf_44 (Nat.le_refl _) (Nat.le_refl _) ⟨by unfold leaR; rw [if_pos c2, show i = 4 by omega], rfl⟩
      ·
        refine a_iload_n X 3 d_Ki_leafOf_25 rfl rfl ?_
        refine a_aload_n X 0 d_Ki_leafOf_26 rfl rfl ?_
        refine a_get X ff_Ki_16 d_Ki_leafOf_27 hq_169 rfl ?_
        refine a_iload_n X 1 d_Ki_leafOf_30 rfl rfl ?_
        refine a_aald X d_Ki_leafOf_31 hq_175 rfl rfl (ab_ix_nI (by omega) (by decide)) (hg_lf (by omega)) ?_
        refine a_iload X d_Ki_leafOf_32 rfl ?_
        refine a_iald X d_Ki_leafOf_34 (hr_lf (by omega)) rfl (ab_ix_nI (by omega) (by decide)) ?_
        refine a_iadd X d_Ki_leafOf_35 ?_
        refine ab_topi (nI_add _ _) ?_
        refine ab_topi (congrArg nI (show _ = sumR (fun y => k.2.1 kd y) 0 (i + 1) from by show _ = sumR _ 0 i + k.2.1 kd (0 + i); rw [Nat.zero_add])) ?_
        refine a_istore_n X 3 d_Ki_leafOf_36 rfl (by decide) ?_
        refine a_incN X d_Ki_leafOf_37 rfl (by decide) ?_
        refine a_goto X 19 d_Ki_leafOf_40 (by decide) ?_
        refine ab_sub [(0, .ref 170), (1, .int (nI kd)), (2, .int x), (3, .int (nI (sumR (fun y => k.2.1 kd y) 0 (i + 1)))), (4, .int (nI (i + 1)))] rfl ?_
        exact ih (i + 1) (by omega) (by omega)
  ·
    obtain ⟨z, hz, hsg⟩ : ∃ z, z < 4 ∧ x = nI z := hx.resolve_left c2
    subst hsg
    refine a_aload_n X 0 d_Ki_leafOf_5 rfl rfl ?_
    refine a_get X ff_Ki_16 d_Ki_leafOf_6 hq_169 rfl ?_
    refine a_iload_n X 1 d_Ki_leafOf_9 rfl rfl ?_
    refine a_aald X d_Ki_leafOf_10 hq_175 rfl rfl (ab_ix_nI (by omega) (by decide)) (hg_lf (by omega)) ?_
    refine a_iload_n X 2 d_Ki_leafOf_11 rfl rfl ?_
    refine a_iald X d_Ki_leafOf_12 (hr_lf (by omega)) rfl (ab_ix_nI (by omega) (by decide)) ?_
    exact a_iret X d_Ki_leafOf_13 (Nat.le_refl _) (Nat.le_refl _) ⟨by unfold leaR; rw [if_neg c2, nI_clamp (by omega)], rfl⟩
