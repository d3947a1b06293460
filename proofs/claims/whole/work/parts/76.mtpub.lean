def okQ (mk : hA) (mp : hP) : Prop := mp.1 ≤ 6 ∧ mk.1 ≤ 4 ∧ (∀ i, mk.2.1 i ≤ 4) ∧ (∀ i, mk.2.2 i ≤ 4) ∧ ∀ p, p < 6 → mp.2.1 p = -1 ∨ ∃ z, z < 4 ∧ mp.2.1 p = nI z
def okF (mk : hA) (mp : hP) (mq : hF) : Prop := okT (vK mk) (vR mp) (vT mq.1) (vT mq.2.1) (vT mq.2.2)
def allT (mp : hP) (f : Nat → Nat) (kd : Nat) : Nat := if mp.1 = 0 then 0 else vT f kd (0 * 6 + (mp.1 - 1))
def ftM (mk : hA) (mp : hP) (al : Int32) (i j : Nat) (mq : hF) : Prop := invM (vK mk) (vR mp) al i j (vT mq.1) (vT mq.2.1) (vT mq.2.2) (fun _ _ _ => True)
theorem allT_y {mp : hP} {f : Nat → Nat} {kd : Nat} (h : 0 < mp.1) (hn : mp.1 ≤ 6) : allT mp f kd = f (24 * 0 + 4 * (mp.1 - 1) + kd) := by
  unfold allT
  rw [if_neg (by omega), vT_at (by omega)]
set_option maxHeartbeats 4000000 in
set_option maxRecDepth 20000 in
theorem c_Mo_trees_ok {E : ab_E} {l : Launch} {r : hR} {s : hS} {w c : hW} {b : hB} {d : hD} {k : hK} {t : hT} {ms mk : hA} {mp : hP} {mw : Nat → Int32} {mc : hC} {md : Nat × (Nat → Int32)} {mt : hF} {me : hE} {kd : Nat} (hQ : okQ mk mp) (hkd : kd < mk.1) : ab_Con E l y_Mo_trees b_Mo_trees 2 (some .long) 3 84 [.ref 204, .int (nI kd)] (hc r s w c b d k t ++ hm ms mk mp mw mc md mt me) 0 0 (fun v h1 => ∃ mq : hF, okF mk mp mq ∧ v = some (.long (lN (allT mp mq.1 kd))) ∧ h1 = hc r s w c b d k t ++ hm ms mk mp mw mc md mq me) := by
  have hn := hQ.1
  have hk4 := hQ.2.1
  refine ab_con (own := "HiddenRowsModel") (ini := false) (by decide) (fun h => by cases h) rfl (Nat.le_of_ble_eq_true rfl) ?_
  intro G m X
  show ab_R E G m 2 0 0 0 [(0, .ref 204), (1, .int (nI kd))] [] (hc r s w c b d k t ++ hm ms mk mp mw mc md mt me)
  refine a_aload_n X 0 d_Mo_trees_0 rfl rfl ?_
  refine a_iload_n X 1 d_Mo_trees_1 rfl rfl ?_
  refine a_callV X (a := 203) (As := [.int _]) mq_203 rfl fb_Mo_isKind lk_Mo_95 im_Mo_isKind se_Mo_isKind (c_Mo_isKind_y hkd (by omega)) rfl rfl (Nat.le_of_ble_eq_true rfl) (by decide) (by decide) (Nat.le_refl _) (Nat.le_refl _) d_Mo_trees_2 (fun v h1 hp => ?_)
  obtain ⟨rfl, rfl⟩ := hp
  refine a_if_neN X 12 (by omega) d_Mo_trees_5 (by decide) (fun c5 => ?_) (fun c5 => ?_)
  ·
    refine a_aload_n X 0 d_Mo_trees_12 rfl rfl ?_
    refine a_get X ff_Mo_82 d_Mo_trees_13 mq_203 rfl ?_
    refine a_if_neN X 21 (by omega) d_Mo_trees_16 (by decide) (fun c16 => ?_) (fun c16 => ?_)
    ·
      have hn0 : 0 < mp.1 := c16
      refine a_aload_n X 0 d_Mo_trees_21 rfl rfl ?_
      refine a_iconst X (v := nI 0) d_Mo_trees_22 (by decide) ?_
      refine a_iconst X (v := nI 0) d_Mo_trees_23 (by decide) ?_
      refine a_iconst X (v := nI 4) d_Mo_trees_24 (by decide) ?_
      refine a_callV X (a := 203) (As := [.int (nI _), .int (nI _), .int (nI 4)]) mq_203 rfl fb_Mo_findTrees lk_Mo_171 im_Mo_findTrees se_Mo_findTrees (c_Mo_ftr (i := 0) (j := 0) (al := (nI 4)) (by omega) (by omega) hQ.1 hQ.2.1 hQ.2.2.1 hQ.2.2.2.1 hQ.2.2.2.2) rfl rfl (Nat.le_of_ble_eq_true rfl) (by decide) (by decide) (Nat.le_refl _) (Nat.le_refl _) d_Mo_trees_25 (fun v h1 hp => ?_)
      obtain ⟨mq, hmq, rfl, rfl⟩ := hp
      refine a_aload_n X 0 d_Mo_trees_28 rfl rfl ?_
      refine a_get X ff_Mo_50 d_Mo_trees_29 mq_203 rfl ?_
      refine a_aload_n X 0 d_Mo_trees_32 rfl rfl ?_
      refine a_iload_n X 1 d_Mo_trees_33 rfl rfl ?_
      refine a_callV X (a := 203) (As := [.int (nI _)]) mq_203 rfl fb_Mo_whole lk_Mo_174 im_Mo_whole se_Mo_whole (c_Mo_who hn0) rfl rfl (Nat.le_of_ble_eq_true rfl) (by decide) (by decide) (Nat.le_refl _) (Nat.le_refl _) d_Mo_trees_34 (fun v h1 hp => ?_)
      obtain ⟨rfl, rfl⟩ := hp
      refine a_lald X d_Mo_trees_37 mq_217 rfl (ab_ix_nI (by omega) (by decide)) ?_
      refine ab_topl (congrArg lN (allT_y hn0 hn).symm) ?_
      exact a_lret X d_Mo_trees_38 (Nat.le_refl _) (Nat.le_refl _) ⟨mq, invM_okT hmq, rfl, rfl⟩
    ·
      refine a_lconst X (v := lN 0) d_Mo_trees_19 (by decide) ?_
      exact a_lret X d_Mo_trees_20 (Nat.le_refl _) (Nat.le_refl _) ⟨mt, fun kk a b _ _ q _ => absurd q (by have e : (vR mp).2.2 = 0 := c16; omega), by unfold allT; rw [if_pos c16], rfl⟩
  ·
    exfalso
    omega
set_option maxHeartbeats 4000000 in
set_option maxRecDepth 20000 in
theorem c_Mo_trees_n {E : ab_E} {l : Launch} {r : hR} {s : hS} {w c : hW} {b : hB} {d : hD} {k : hK} {t : hT} {ms mk : hA} {mp : hP} {mw : Nat → Int32} {mc : hC} {md : Nat × (Nat → Int32)} {mt : hF} {me : hE} {a : Int32} (ha : a < 0 ∨ nI mk.1 ≤ a) : ab_Con E l y_Mo_trees b_Mo_trees 2 (some .long) 3 84 [.ref 204, .int a] (hc r s w c b d k t ++ hm ms mk mp mw mc md mt me) 0 0 (fun v h1 => v = some (.long (-1)) ∧ h1 = hc r s w c b d k t ++ hm ms mk mp mw mc md mt me) := by
  refine ab_con (own := "HiddenRowsModel") (ini := false) (by decide) (fun h => by cases h) rfl (Nat.le_of_ble_eq_true rfl) ?_
  intro G m X
  show ab_R E G m 2 0 0 0 [(0, .ref 204), (1, .int a)] [] (hc r s w c b d k t ++ hm ms mk mp mw mc md mt me)
  refine a_aload_n X 0 d_Mo_trees_0 rfl rfl ?_
  refine a_iload_n X 1 d_Mo_trees_1 rfl rfl ?_
  refine a_callV X (a := 203) (As := [.int _]) mq_203 rfl fb_Mo_isKind lk_Mo_95 im_Mo_isKind se_Mo_isKind (c_Mo_isKind_n ha) rfl rfl (Nat.le_of_ble_eq_true rfl) (by decide) (by decide) (Nat.le_refl _) (Nat.le_refl _) d_Mo_trees_2 (fun v h1 hp => ?_)
  obtain ⟨rfl, rfl⟩ := hp
  refine a_if_neN X 12 (by omega) d_Mo_trees_5 (by decide) (fun c5 => ?_) (fun c5 => ?_)
  ·
    exfalso
    omega
  ·
    refine a_ldc2 X kc_Mo_145 d_Mo_trees_8 ?_
    exact a_lret X d_Mo_trees_11 (Nat.le_refl _) (Nat.le_refl _) ⟨rfl, rfl⟩
set_option maxHeartbeats 4000000 in
set_option maxRecDepth 20000 in
theorem c_Mo_treeCount_ok {E : ab_E} {l : Launch} {r : hR} {s : hS} {w c : hW} {b : hB} {d : hD} {k : hK} {t : hT} {ms mk : hA} {mp : hP} {mw : Nat → Int32} {mc : hC} {md : Nat × (Nat → Int32)} {mt : hF} {me : hE} {kd : Nat} (hQ : okQ mk mp) (hkd : kd < mk.1) : ab_Con E l y_Mo_treeCount b_Mo_treeCount 2 (some .long) 3 84 [.ref 204, .int (nI kd)] (hc r s w c b d k t ++ hm ms mk mp mw mc md mt me) 0 0 (fun v h1 => ∃ mq : hF, okF mk mp mq ∧ v = some (.long (lN (allT mp mq.2.1 kd))) ∧ h1 = hc r s w c b d k t ++ hm ms mk mp mw mc md mq me) := by
  have hn := hQ.1
  have hk4 := hQ.2.1
  refine ab_con (own := "HiddenRowsModel") (ini := false) (by decide) (fun h => by cases h) rfl (Nat.le_of_ble_eq_true rfl) ?_
  intro G m X
  show ab_R E G m 2 0 0 0 [(0, .ref 204), (1, .int (nI kd))] [] (hc r s w c b d k t ++ hm ms mk mp mw mc md mt me)
  refine a_aload_n X 0 d_Mo_treeCount_0 rfl rfl ?_
  refine a_iload_n X 1 d_Mo_treeCount_1 rfl rfl ?_
  refine a_callV X (a := 203) (As := [.int _]) mq_203 rfl fb_Mo_isKind lk_Mo_95 im_Mo_isKind se_Mo_isKind (c_Mo_isKind_y hkd (by omega)) rfl rfl (Nat.le_of_ble_eq_true rfl) (by decide) (by decide) (Nat.le_refl _) (Nat.le_refl _) d_Mo_treeCount_2 (fun v h1 hp => ?_)
  obtain ⟨rfl, rfl⟩ := hp
  refine a_if_neN X 12 (by omega) d_Mo_treeCount_5 (by decide) (fun c5 => ?_) (fun c5 => ?_)
  ·
    refine a_aload_n X 0 d_Mo_treeCount_12 rfl rfl ?_
    refine a_get X ff_Mo_82 d_Mo_treeCount_13 mq_203 rfl ?_
    refine a_if_neN X 21 (by omega) d_Mo_treeCount_16 (by decide) (fun c16 => ?_) (fun c16 => ?_)
    ·
      have hn0 : 0 < mp.1 := c16
      refine a_aload_n X 0 d_Mo_treeCount_21 rfl rfl ?_
      refine a_iconst X (v := nI 0) d_Mo_treeCount_22 (by decide) ?_
      refine a_iconst X (v := nI 0) d_Mo_treeCount_23 (by decide) ?_
      refine a_iconst X (v := nI 4) d_Mo_treeCount_24 (by decide) ?_
      refine a_callV X (a := 203) (As := [.int (nI _), .int (nI _), .int (nI 4)]) mq_203 rfl fb_Mo_findTrees lk_Mo_171 im_Mo_findTrees se_Mo_findTrees (c_Mo_ftr (i := 0) (j := 0) (al := (nI 4)) (by omega) (by omega) hQ.1 hQ.2.1 hQ.2.2.1 hQ.2.2.2.1 hQ.2.2.2.2) rfl rfl (Nat.le_of_ble_eq_true rfl) (by decide) (by decide) (Nat.le_refl _) (Nat.le_refl _) d_Mo_treeCount_25 (fun v h1 hp => ?_)
      obtain ⟨mq, hmq, rfl, rfl⟩ := hp
      refine a_aload_n X 0 d_Mo_treeCount_28 rfl rfl ?_
      refine a_get X ff_Mo_53 d_Mo_treeCount_29 mq_203 rfl ?_
      refine a_aload_n X 0 d_Mo_treeCount_32 rfl rfl ?_
      refine a_iload_n X 1 d_Mo_treeCount_33 rfl rfl ?_
      refine a_callV X (a := 203) (As := [.int (nI _)]) mq_203 rfl fb_Mo_whole lk_Mo_174 im_Mo_whole se_Mo_whole (c_Mo_who hn0) rfl rfl (Nat.le_of_ble_eq_true rfl) (by decide) (by decide) (Nat.le_refl _) (Nat.le_refl _) d_Mo_treeCount_34 (fun v h1 hp => ?_)
      obtain ⟨rfl, rfl⟩ := hp
      refine a_lald X d_Mo_treeCount_37 mq_218 rfl (ab_ix_nI (by omega) (by decide)) ?_
      refine ab_topl (congrArg lN (allT_y hn0 hn).symm) ?_
      exact a_lret X d_Mo_treeCount_38 (Nat.le_refl _) (Nat.le_refl _) ⟨mq, invM_okT hmq, rfl, rfl⟩
    ·
      refine a_lconst X (v := lN 0) d_Mo_treeCount_19 (by decide) ?_
      exact a_lret X d_Mo_treeCount_20 (Nat.le_refl _) (Nat.le_refl _) ⟨mt, fun kk a b _ _ q _ => absurd q (by have e : (vR mp).2.2 = 0 := c16; omega), by unfold allT; rw [if_pos c16], rfl⟩
  ·
    exfalso
    omega
set_option maxHeartbeats 4000000 in
set_option maxRecDepth 20000 in
theorem c_Mo_treeCount_n {E : ab_E} {l : Launch} {r : hR} {s : hS} {w c : hW} {b : hB} {d : hD} {k : hK} {t : hT} {ms mk : hA} {mp : hP} {mw : Nat → Int32} {mc : hC} {md : Nat × (Nat → Int32)} {mt : hF} {me : hE} {a : Int32} (ha : a < 0 ∨ nI mk.1 ≤ a) : ab_Con E l y_Mo_treeCount b_Mo_treeCount 2 (some .long) 3 84 [.ref 204, .int a] (hc r s w c b d k t ++ hm ms mk mp mw mc md mt me) 0 0 (fun v h1 => v = some (.long (-1)) ∧ h1 = hc r s w c b d k t ++ hm ms mk mp mw mc md mt me) := by
  refine ab_con (own := "HiddenRowsModel") (ini := false) (by decide) (fun h => by cases h) rfl (Nat.le_of_ble_eq_true rfl) ?_
  intro G m X
  show ab_R E G m 2 0 0 0 [(0, .ref 204), (1, .int a)] [] (hc r s w c b d k t ++ hm ms mk mp mw mc md mt me)
  refine a_aload_n X 0 d_Mo_treeCount_0 rfl rfl ?_
  refine a_iload_n X 1 d_Mo_treeCount_1 rfl rfl ?_
  refine a_callV X (a := 203) (As := [.int _]) mq_203 rfl fb_Mo_isKind lk_Mo_95 im_Mo_isKind se_Mo_isKind (c_Mo_isKind_n ha) rfl rfl (Nat.le_of_ble_eq_true rfl) (by decide) (by decide) (Nat.le_refl _) (Nat.le_refl _) d_Mo_treeCount_2 (fun v h1 hp => ?_)
  obtain ⟨rfl, rfl⟩ := hp
  refine a_if_neN X 12 (by omega) d_Mo_treeCount_5 (by decide) (fun c5 => ?_) (fun c5 => ?_)
  ·
    exfalso
    omega
  ·
    refine a_ldc2 X kc_Mo_145 d_Mo_treeCount_8 ?_
    exact a_lret X d_Mo_treeCount_11 (Nat.le_refl _) (Nat.le_refl _) ⟨rfl, rfl⟩
set_option maxHeartbeats 4000000 in
set_option maxRecDepth 20000 in
theorem c_Mo_treeBest_ok {E : ab_E} {l : Launch} {r : hR} {s : hS} {w c : hW} {b : hB} {d : hD} {k : hK} {t : hT} {ms mk : hA} {mp : hP} {mw : Nat → Int32} {mc : hC} {md : Nat × (Nat → Int32)} {mt : hF} {me : hE} {kd : Nat} (hQ : okQ mk mp) (hkd : kd < mk.1) (hsb : ∀ mq : hF, okF mk mp mq → allT mp mq.1 kd < 2 ^ 63) : ab_Con E l y_Mo_treeBest b_Mo_treeBest 4 (some .long) 4 105 [.ref 204, .int (nI kd)] (hc r s w c b d k t ++ hm ms mk mp mw mc md mt me) 0 0 (fun v h1 => ∃ mq : hF, okF mk mp mq ∧ v = some (.long (if allT mp mq.1 kd = 0 then -3 else lN (allT mp mq.2.2 kd))) ∧ h1 = hc r s w c b d k t ++ hm ms mk mp mw mc md mq me) := by
  have hn := hQ.1
  have hk4 := hQ.2.1
  refine ab_con (own := "HiddenRowsModel") (ini := false) (by decide) (fun h => by cases h) rfl (Nat.le_of_ble_eq_true rfl) ?_
  intro G m X
  show ab_R E G m 4 0 0 0 [(0, .ref 204), (1, .int (nI kd))] [] (hc r s w c b d k t ++ hm ms mk mp mw mc md mt me)
  refine a_aload_n X 0 d_Mo_treeBest_0 rfl rfl ?_
  refine a_iload_n X 1 d_Mo_treeBest_1 rfl rfl ?_
  refine a_callV X (a := 203) (As := [.int (nI _)]) mq_203 rfl fb_Mo_trees lk_Mo_177 im_Mo_trees se_Mo_trees (c_Mo_trees_ok hQ hkd) rfl rfl (Nat.le_of_ble_eq_true rfl) (by decide) (by decide) (Nat.le_refl _) (Nat.le_refl _) d_Mo_treeBest_2 (fun v h1 hp => ?_)
  obtain ⟨mq, hmq, rfl, rfl⟩ := hp
  have hsb1 := hsb mq hmq
  refine a_lstore_n X 2 d_Mo_treeBest_5 rfl (by decide) ?_
  refine a_lload_n X 2 d_Mo_treeBest_6 rfl rfl ?_
  refine a_lconst X (v := lN 0) d_Mo_treeBest_7 (by decide) ?_
  refine a_lc_ge X 18 hsb1 (by omega) d_Mo_treeBest_8 d_Mo_treeBest_9 (by decide) (fun c8 => ?_) (fun c8 => ?_)
  ·
    refine a_lload_n X 2 d_Mo_treeBest_18 rfl rfl ?_
    refine a_lconst X (v := lN 0) d_Mo_treeBest_19 (by decide) ?_
    refine a_lc_ne X 30 hsb1 (by omega) d_Mo_treeBest_20 d_Mo_treeBest_21 (by decide) (fun c20 => ?_) (fun c20 => ?_)
    ·
      have hn0 : 0 < mp.1 := by
        rcases Nat.eq_zero_or_pos mp.1 with e | e
        · exact absurd (by unfold allT; rw [if_pos e]) c20
        · exact e
      refine a_aload_n X 0 d_Mo_treeBest_30 rfl rfl ?_
      refine a_get X ff_Mo_56 d_Mo_treeBest_31 mq_203 rfl ?_
      refine a_aload_n X 0 d_Mo_treeBest_34 rfl rfl ?_
      refine a_iload_n X 1 d_Mo_treeBest_35 rfl rfl ?_
      refine a_callV X (a := 203) (As := [.int (nI _)]) mq_203 rfl fb_Mo_whole lk_Mo_174 im_Mo_whole se_Mo_whole (c_Mo_who hn0) rfl rfl (Nat.le_of_ble_eq_true rfl) (by decide) (by decide) (Nat.le_refl _) (Nat.le_refl _) d_Mo_treeBest_36 (fun v h1 hp => ?_)
      obtain ⟨rfl, rfl⟩ := hp
      refine a_lald X d_Mo_treeBest_39 mq_219 rfl (ab_ix_nI (by omega) (by decide)) ?_
      refine ab_topl (congrArg lN (allT_y hn0 hn).symm) ?_
      exact a_lret X d_Mo_treeBest_40 (Nat.le_refl _) (Nat.le_refl _) ⟨mq, hmq, by first | rw [if_neg c20] | rw [if_pos c20], rfl⟩
    ·
      refine a_ldc2 X kc_Mo_149 d_Mo_treeBest_24 ?_
      refine a_goto X 40 d_Mo_treeBest_27 (by decide) ?_
      exact a_lret X d_Mo_treeBest_40 (Nat.le_refl _) (Nat.le_refl _) ⟨mq, hmq, by first | rw [if_neg c20] | rw [if_pos c20], rfl⟩
  ·
    exact absurd c8 (by omega)
set_option maxHeartbeats 4000000 in
set_option maxRecDepth 20000 in
theorem c_Mo_treeBest_n {E : ab_E} {l : Launch} {r : hR} {s : hS} {w c : hW} {b : hB} {d : hD} {k : hK} {t : hT} {ms mk : hA} {mp : hP} {mw : Nat → Int32} {mc : hC} {md : Nat × (Nat → Int32)} {mt : hF} {me : hE} {a : Int32} (ha : a < 0 ∨ nI mk.1 ≤ a) : ab_Con E l y_Mo_treeBest b_Mo_treeBest 4 (some .long) 4 105 [.ref 204, .int a] (hc r s w c b d k t ++ hm ms mk mp mw mc md mt me) 0 0 (fun v h1 => v = some (.long (-1)) ∧ h1 = hc r s w c b d k t ++ hm ms mk mp mw mc md mt me) := by
  refine ab_con (own := "HiddenRowsModel") (ini := false) (by decide) (fun h => by cases h) rfl (Nat.le_of_ble_eq_true rfl) ?_
  intro G m X
  show ab_R E G m 4 0 0 0 [(0, .ref 204), (1, .int a)] [] (hc r s w c b d k t ++ hm ms mk mp mw mc md mt me)
  refine a_aload_n X 0 d_Mo_treeBest_0 rfl rfl ?_
  refine a_iload_n X 1 d_Mo_treeBest_1 rfl rfl ?_
  refine a_callV X (a := 203) (As := [.int _]) mq_203 rfl fb_Mo_trees lk_Mo_177 im_Mo_trees se_Mo_trees (c_Mo_trees_n ha) rfl rfl (Nat.le_of_ble_eq_true rfl) (by decide) (by decide) (Nat.le_refl _) (Nat.le_refl _) d_Mo_treeBest_2 (fun v h1 hp => ?_)
  obtain ⟨rfl, rfl⟩ := hp
  refine a_lstore_n X 2 d_Mo_treeBest_5 rfl (by decide) ?_
  refine a_lload_n X 2 d_Mo_treeBest_6 rfl rfl ?_
  refine a_lconst X (v := lN 0) d_Mo_treeBest_7 (by decide) ?_
  refine a_lcmp X d_Mo_treeBest_8 ?_
  refine ab_topi (show _ = (-1 : Int32) by decide) ?_
  refine a_if_ge X 18 d_Mo_treeBest_9 (by decide) (fun c8 => ?_) (fun c8 => ?_)
  ·
    exact absurd c8 (by decide)
  ·
    refine a_ldc2 X kc_Mo_145 d_Mo_treeBest_12 ?_
    refine a_goto X 40 d_Mo_treeBest_15 (by decide) ?_
    exact a_lret X d_Mo_treeBest_40 (Nat.le_refl _) (Nat.le_refl _) ⟨rfl, rfl⟩
set_option maxHeartbeats 4000000 in
set_option maxRecDepth 20000 in
theorem c_Mo_span_ok {E : ab_E} {l : Launch} {r : hR} {s : hS} {w c : hW} {b : hB} {d : hD} {k : hK} {t : hT} {ms mk : hA} {mp : hP} {mw : Nat → Int32} {mc : hC} {md : Nat × (Nat → Int32)} {mt : hF} {me : hE} {kd wn i j pt : Nat} (hQ : okQ mk mp) (hkd : kd < mk.1) (hwn : wn < mk.1) (hi : i < mp.1) (hj : j < mp.1) (hij : i ≤ j) (hpt : pt ≤ 1) (hsb : ∀ mq : hF, okF mk mp mq → allT mp mq.1 kd < 2 ^ 63) (hd : ∀ mq1 mq2 : hF, ftM mk mp (nI wn) i j mq1 → ftM mk mp (-1) i j mq2 → allT mp mq2.1 kd ≤ allT mp mq1.1 kd ∧ allT mp mq1.1 kd - allT mp mq2.1 kd < 2 ^ 63) : ab_Con E l y_Mo_span b_Mo_span 10 (some .long) 4 105 [.ref 204, .int (nI kd), .int (nI wn), .int (nI i), .int (nI j), .int (nI pt)] (hc r s w c b d k t ++ hm ms mk mp mw mc md mt me) 0 0 (fun v h1 => ∃ mq : hF, okF mk mp mq ∧ ((allT mp mq.1 kd = 0 ∧ v = some (.long (-3)) ∧ h1 = hc r s w c b d k t ++ hm ms mk mp mw mc md mq me) ∨ (allT mp mq.1 kd ≠ 0 ∧ ∃ mq1 mq2 : hF, ftM mk mp (nI wn) i j mq1 ∧ ftM mk mp (-1) i j mq2 ∧ v = some (.long (lowR (allT mp mq1.1 kd - allT mp mq2.1 kd) (allT mp mq.1 kd) pt)) ∧ h1 = hc r s w c b d k t ++ hm ms mk mp mw mc md mq2 me))) := by
  have hn := hQ.1
  have hk4 := hQ.2.1
  have hn0 : 0 < mp.1 := by omega
  refine ab_con (own := "HiddenRowsModel") (ini := false) (by decide) (fun h => by cases h) rfl (Nat.le_of_ble_eq_true rfl) ?_
  intro G m X
  show ab_R E G m 10 0 0 0 [(0, .ref 204), (1, .int (nI kd)), (2, .int (nI wn)), (3, .int (nI i)), (4, .int (nI j)), (5, .int (nI pt))] [] (hc r s w c b d k t ++ hm ms mk mp mw mc md mt me)
  refine a_aload_n X 0 d_Mo_span_0 rfl rfl ?_
  refine a_iload_n X 1 d_Mo_span_1 rfl rfl ?_
  refine a_callV X (a := 203) (As := [.int _]) mq_203 rfl fb_Mo_isKind lk_Mo_95 im_Mo_isKind se_Mo_isKind (c_Mo_isKind_y hkd (by omega)) rfl rfl (Nat.le_of_ble_eq_true rfl) (by decide) (by decide) (Nat.le_refl _) (Nat.le_refl _) d_Mo_span_2 (fun v h1 hp => ?_)
  obtain ⟨rfl, rfl⟩ := hp
  refine a_if_eqN X 39 (by omega) d_Mo_span_5 (by decide) (fun c5 => ?_) (fun c5 => ?_)
  ·
    exfalso
    omega
  ·
    refine a_aload_n X 0 d_Mo_span_8 rfl rfl ?_
    refine a_iload_n X 2 d_Mo_span_9 rfl rfl ?_
    refine a_callV X (a := 203) (As := [.int _]) mq_203 rfl fb_Mo_isKind lk_Mo_95 im_Mo_isKind se_Mo_isKind (c_Mo_isKind_y hwn (by omega)) rfl rfl (Nat.le_of_ble_eq_true rfl) (by decide) (by decide) (Nat.le_refl _) (Nat.le_refl _) d_Mo_span_10 (fun v h1 hp => ?_)
    obtain ⟨rfl, rfl⟩ := hp
    refine a_if_eqN X 39 (by omega) d_Mo_span_13 (by decide) (fun c13 => ?_) (fun c13 => ?_)
    ·
      exfalso
      omega
    ·
      refine a_aload_n X 0 d_Mo_span_16 rfl rfl ?_
      refine a_iload_n X 3 d_Mo_span_17 rfl rfl ?_
      refine a_callV X (a := 203) (As := [.int _]) mq_203 rfl fb_Mo_isPlace lk_Mo_98 im_Mo_isPlace se_Mo_isPlace (c_Mo_isPlace_y hi hn) rfl rfl (Nat.le_of_ble_eq_true rfl) (by decide) (by decide) (Nat.le_refl _) (Nat.le_refl _) d_Mo_span_18 (fun v h1 hp => ?_)
      obtain ⟨rfl, rfl⟩ := hp
      refine a_if_eqN X 39 (by omega) d_Mo_span_21 (by decide) (fun c21 => ?_) (fun c21 => ?_)
      ·
        exfalso
        omega
      ·
        refine a_aload_n X 0 d_Mo_span_24 rfl rfl ?_
        refine a_iload X d_Mo_span_25 rfl ?_
        refine a_callV X (a := 203) (As := [.int _]) mq_203 rfl fb_Mo_isPlace lk_Mo_98 im_Mo_isPlace se_Mo_isPlace (c_Mo_isPlace_y hj hn) rfl rfl (Nat.le_of_ble_eq_true rfl) (by decide) (by decide) (Nat.le_refl _) (Nat.le_refl _) d_Mo_span_27 (fun v h1 hp => ?_)
        obtain ⟨rfl, rfl⟩ := hp
        refine a_if_eqN X 39 (by omega) d_Mo_span_30 (by decide) (fun c30 => ?_) (fun c30 => ?_)
        ·
          exfalso
          omega
        ·
          refine a_iload_n X 3 d_Mo_span_33 rfl rfl ?_
          refine a_iload X d_Mo_span_34 rfl ?_
          refine a_icmp_leN X 43 (by omega) (by omega) d_Mo_span_36 (by decide) (fun c36 => ?_) (fun c36 => ?_)
          ·
            refine a_iload X d_Mo_span_43 rfl ?_
            refine a_if_ltN X 54 (by omega) d_Mo_span_45 (by decide) ?_
            refine a_iload X d_Mo_span_48 rfl ?_
            refine a_iconst X (v := nI 1) d_Mo_span_50 (by decide) ?_
            refine a_icmp_leN X 58 (by omega) (by omega) d_Mo_span_51 (by decide) (fun c51 => ?_) (fun c51 => ?_)
            ·
              refine a_aload_n X 0 d_Mo_span_58 rfl rfl ?_
              refine a_iload_n X 1 d_Mo_span_59 rfl rfl ?_
              refine a_callV X (a := 203) (As := [.int (nI _)]) mq_203 rfl fb_Mo_trees lk_Mo_177 im_Mo_trees se_Mo_trees (c_Mo_trees_ok hQ hkd) rfl rfl (Nat.le_of_ble_eq_true rfl) (by decide) (by decide) (Nat.le_refl _) (Nat.le_refl _) d_Mo_span_60 (fun v h1 hp => ?_)
              obtain ⟨mq, hmq, rfl, rfl⟩ := hp
              have hsb1 := hsb mq hmq
              refine a_lstore X d_Mo_span_63 (by decide) ?_
              refine a_lload X d_Mo_span_65 rfl ?_
              refine a_lconst X (v := lN 0) d_Mo_span_67 (by decide) ?_
              refine a_lc_ne X 76 hsb1 (by omega) d_Mo_span_68 d_Mo_span_69 (by decide) (fun c68 => ?_) (fun c68 => ?_)
              ·
                refine a_aload_n X 0 d_Mo_span_76 rfl rfl ?_
                refine a_iload_n X 3 d_Mo_span_77 rfl rfl ?_
                refine a_iload X d_Mo_span_78 rfl ?_
                refine a_iload_n X 2 d_Mo_span_80 rfl rfl ?_
                refine a_callV X (a := 203) (As := [.int (nI _), .int (nI _), .int (nI wn)]) mq_203 rfl fb_Mo_findTrees lk_Mo_171 im_Mo_findTrees se_Mo_findTrees (c_Mo_ftr (i := i) (j := j) (al := (nI wn)) (by omega) (by omega) hQ.1 hQ.2.1 hQ.2.2.1 hQ.2.2.2.1 hQ.2.2.2.2) rfl rfl (Nat.le_of_ble_eq_true rfl) (by decide) (by decide) (Nat.le_refl _) (Nat.le_refl _) d_Mo_span_81 (fun v h1 hp => ?_)
                obtain ⟨mq1, hmq1, rfl, rfl⟩ := hp
                refine a_aload_n X 0 d_Mo_span_84 rfl rfl ?_
                refine a_get X ff_Mo_50 d_Mo_span_85 mq_203 rfl ?_
                refine a_aload_n X 0 d_Mo_span_88 rfl rfl ?_
                refine a_iload_n X 1 d_Mo_span_89 rfl rfl ?_
                refine a_callV X (a := 203) (As := [.int (nI _)]) mq_203 rfl fb_Mo_whole lk_Mo_174 im_Mo_whole se_Mo_whole (c_Mo_who hn0) rfl rfl (Nat.le_of_ble_eq_true rfl) (by decide) (by decide) (Nat.le_refl _) (Nat.le_refl _) d_Mo_span_90 (fun v h1 hp => ?_)
                obtain ⟨rfl, rfl⟩ := hp
                refine a_lald X d_Mo_span_93 mq_217 rfl (ab_ix_nI (by omega) (by decide)) ?_
                refine ab_topl (congrArg lN (allT_y hn0 hn).symm) ?_
                refine a_lstore X d_Mo_span_94 (by decide) ?_
                refine a_aload_n X 0 d_Mo_span_96 rfl rfl ?_
                refine a_iload_n X 3 d_Mo_span_97 rfl rfl ?_
                refine a_iload X d_Mo_span_98 rfl ?_
                refine a_iconst X (v := -1) d_Mo_span_100 (by decide) ?_
                refine a_callV X (a := 203) (As := [.int (nI _), .int (nI _), .int (-1)]) mq_203 rfl fb_Mo_findTrees lk_Mo_171 im_Mo_findTrees se_Mo_findTrees (c_Mo_ftr (i := i) (j := j) (al := (-1)) (by omega) (by omega) hQ.1 hQ.2.1 hQ.2.2.1 hQ.2.2.2.1 hQ.2.2.2.2) rfl rfl (Nat.le_of_ble_eq_true rfl) (by decide) (by decide) (Nat.le_refl _) (Nat.le_refl _) d_Mo_span_101 (fun v h1 hp => ?_)
                obtain ⟨mq2, hmq2, rfl, rfl⟩ := hp
                refine a_lload X d_Mo_span_104 rfl ?_
                refine a_aload_n X 0 d_Mo_span_106 rfl rfl ?_
                refine a_get X ff_Mo_50 d_Mo_span_107 mq_203 rfl ?_
                refine a_aload_n X 0 d_Mo_span_110 rfl rfl ?_
                refine a_iload_n X 1 d_Mo_span_111 rfl rfl ?_
                refine a_callV X (a := 203) (As := [.int (nI _)]) mq_203 rfl fb_Mo_whole lk_Mo_174 im_Mo_whole se_Mo_whole (c_Mo_who hn0) rfl rfl (Nat.le_of_ble_eq_true rfl) (by decide) (by decide) (Nat.le_refl _) (Nat.le_refl _) d_Mo_span_112 (fun v h1 hp => ?_)
                obtain ⟨rfl, rfl⟩ := hp
                refine a_lald X d_Mo_span_115 mq_217 rfl (ab_ix_nI (by omega) (by decide)) ?_
                refine ab_topl (congrArg lN (allT_y hn0 hn).symm) ?_
                refine a_lsub X d_Mo_span_116 ?_
                have hd1 := hd mq1 mq2 hmq1 hmq2
                refine ab_topl (lN_sub hd1.1) ?_
                refine a_lload X d_Mo_span_117 rfl ?_
                refine a_iload X d_Mo_span_119 rfl ?_
                refine a_callS X (As := [.long (lN _), .long (lN _), .int (nI _)]) fb_Mo_lowest lk_Mo_151 sm_Mo_lowest (c_Mo_low hd1.2 hsb1 (by omega) hpt) rfl rfl (Nat.le_of_ble_eq_true rfl) (by decide) (by decide) (Nat.le_refl _) (Nat.le_refl _) d_Mo_span_121 (fun v h1 hp => ?_)
                obtain ⟨rfl, rfl⟩ := hp
                exact a_lret X d_Mo_span_124 (Nat.le_refl _) (Nat.le_refl _) ⟨mq, hmq, Or.inr ⟨c68, mq1, mq2, hmq1, hmq2, rfl, rfl⟩⟩
              ·
                refine a_ldc2 X kc_Mo_149 d_Mo_span_72 ?_
                exact a_lret X d_Mo_span_75 (Nat.le_refl _) (Nat.le_refl _) ⟨mq, hmq, Or.inl ⟨c68, rfl, rfl⟩⟩
            ·
              exfalso
              omega
          ·
            exfalso
            omega
set_option maxHeartbeats 4000000 in
set_option maxRecDepth 20000 in
theorem c_Mo_span_k {E : ab_E} {l : Launch} {r : hR} {s : hS} {w c : hW} {b : hB} {d : hD} {k : hK} {t : hT} {ms mk : hA} {mp : hP} {mw : Nat → Int32} {mc : hC} {md : Nat × (Nat → Int32)} {mt : hF} {me : hE} {y1 y2 y3 y4 y5 : Int32} (ha : y1 < 0 ∨ nI mk.1 ≤ y1) : ab_Con E l y_Mo_span b_Mo_span 10 (some .long) 4 105 [.ref 204, .int y1, .int y2, .int y3, .int y4, .int y5] (hc r s w c b d k t ++ hm ms mk mp mw mc md mt me) 0 0 (fun v h1 => v = some (.long (-1)) ∧ h1 = hc r s w c b d k t ++ hm ms mk mp mw mc md mt me) := by
  refine ab_con (own := "HiddenRowsModel") (ini := false) (by decide) (fun h => by cases h) rfl (Nat.le_of_ble_eq_true rfl) ?_
  intro G m X
  show ab_R E G m 10 0 0 0 [(0, .ref 204), (1, .int y1), (2, .int y2), (3, .int y3), (4, .int y4), (5, .int y5)] [] (hc r s w c b d k t ++ hm ms mk mp mw mc md mt me)
  refine a_aload_n X 0 d_Mo_span_0 rfl rfl ?_
  refine a_iload_n X 1 d_Mo_span_1 rfl rfl ?_
  refine a_callV X (a := 203) (As := [.int _]) mq_203 rfl fb_Mo_isKind lk_Mo_95 im_Mo_isKind se_Mo_isKind (c_Mo_isKind_n ha) rfl rfl (Nat.le_of_ble_eq_true rfl) (by decide) (by decide) (Nat.le_refl _) (Nat.le_refl _) d_Mo_span_2 (fun v h1 hp => ?_)
  obtain ⟨rfl, rfl⟩ := hp
  refine a_if_eqN X 39 (by omega) d_Mo_span_5 (by decide) (fun c5 => ?_) (fun c5 => ?_)
  ·
    refine a_ldc2 X kc_Mo_145 d_Mo_span_39 ?_
    exact a_lret X d_Mo_span_42 (Nat.le_refl _) (Nat.le_refl _) ⟨rfl, rfl⟩
  ·
    exfalso
    omega
set_option maxHeartbeats 4000000 in
set_option maxRecDepth 20000 in
theorem c_Mo_span_w {E : ab_E} {l : Launch} {r : hR} {s : hS} {w c : hW} {b : hB} {d : hD} {k : hK} {t : hT} {ms mk : hA} {mp : hP} {mw : Nat → Int32} {mc : hC} {md : Nat × (Nat → Int32)} {mt : hF} {me : hE} {kd : Nat} {y2 y3 y4 y5 : Int32} (hQ : okQ mk mp) (hkd : kd < mk.1) (hb : y2 < 0 ∨ nI mk.1 ≤ y2) : ab_Con E l y_Mo_span b_Mo_span 10 (some .long) 4 105 [.ref 204, .int (nI kd), .int y2, .int y3, .int y4, .int y5] (hc r s w c b d k t ++ hm ms mk mp mw mc md mt me) 0 0 (fun v h1 => v = some (.long (-1)) ∧ h1 = hc r s w c b d k t ++ hm ms mk mp mw mc md mt me) := by
  have hn := hQ.1
  have hk4 := hQ.2.1
  refine ab_con (own := "HiddenRowsModel") (ini := false) (by decide) (fun h => by cases h) rfl (Nat.le_of_ble_eq_true rfl) ?_
  intro G m X
  show ab_R E G m 10 0 0 0 [(0, .ref 204), (1, .int (nI kd)), (2, .int y2), (3, .int y3), (4, .int y4), (5, .int y5)] [] (hc r s w c b d k t ++ hm ms mk mp mw mc md mt me)
  refine a_aload_n X 0 d_Mo_span_0 rfl rfl ?_
  refine a_iload_n X 1 d_Mo_span_1 rfl rfl ?_
  refine a_callV X (a := 203) (As := [.int _]) mq_203 rfl fb_Mo_isKind lk_Mo_95 im_Mo_isKind se_Mo_isKind (c_Mo_isKind_y hkd (by omega)) rfl rfl (Nat.le_of_ble_eq_true rfl) (by decide) (by decide) (Nat.le_refl _) (Nat.le_refl _) d_Mo_span_2 (fun v h1 hp => ?_)
  obtain ⟨rfl, rfl⟩ := hp
  refine a_if_eqN X 39 (by omega) d_Mo_span_5 (by decide) (fun c5 => ?_) (fun c5 => ?_)
  ·
    exfalso
    omega
  ·
    refine a_aload_n X 0 d_Mo_span_8 rfl rfl ?_
    refine a_iload_n X 2 d_Mo_span_9 rfl rfl ?_
    refine a_callV X (a := 203) (As := [.int _]) mq_203 rfl fb_Mo_isKind lk_Mo_95 im_Mo_isKind se_Mo_isKind (c_Mo_isKind_n hb) rfl rfl (Nat.le_of_ble_eq_true rfl) (by decide) (by decide) (Nat.le_refl _) (Nat.le_refl _) d_Mo_span_10 (fun v h1 hp => ?_)
    obtain ⟨rfl, rfl⟩ := hp
    refine a_if_eqN X 39 (by omega) d_Mo_span_13 (by decide) (fun c13 => ?_) (fun c13 => ?_)
    ·
      refine a_ldc2 X kc_Mo_145 d_Mo_span_39 ?_
      exact a_lret X d_Mo_span_42 (Nat.le_refl _) (Nat.le_refl _) ⟨rfl, rfl⟩
    ·
      exfalso
      omega
set_option maxHeartbeats 4000000 in
set_option maxRecDepth 20000 in
theorem c_Mo_span_i {E : ab_E} {l : Launch} {r : hR} {s : hS} {w c : hW} {b : hB} {d : hD} {k : hK} {t : hT} {ms mk : hA} {mp : hP} {mw : Nat → Int32} {mc : hC} {md : Nat × (Nat → Int32)} {mt : hF} {me : hE} {kd wn : Nat} {y3 y4 y5 : Int32} (hQ : okQ mk mp) (hkd : kd < mk.1) (hwn : wn < mk.1) (hb : y3 < 0 ∨ nI mp.1 ≤ y3) : ab_Con E l y_Mo_span b_Mo_span 10 (some .long) 4 105 [.ref 204, .int (nI kd), .int (nI wn), .int y3, .int y4, .int y5] (hc r s w c b d k t ++ hm ms mk mp mw mc md mt me) 0 0 (fun v h1 => v = some (.long (-1)) ∧ h1 = hc r s w c b d k t ++ hm ms mk mp mw mc md mt me) := by
  have hn := hQ.1
  have hk4 := hQ.2.1
  refine ab_con (own := "HiddenRowsModel") (ini := false) (by decide) (fun h => by cases h) rfl (Nat.le_of_ble_eq_true rfl) ?_
  intro G m X
  show ab_R E G m 10 0 0 0 [(0, .ref 204), (1, .int (nI kd)), (2, .int (nI wn)), (3, .int y3), (4, .int y4), (5, .int y5)] [] (hc r s w c b d k t ++ hm ms mk mp mw mc md mt me)
  refine a_aload_n X 0 d_Mo_span_0 rfl rfl ?_
  refine a_iload_n X 1 d_Mo_span_1 rfl rfl ?_
  refine a_callV X (a := 203) (As := [.int _]) mq_203 rfl fb_Mo_isKind lk_Mo_95 im_Mo_isKind se_Mo_isKind (c_Mo_isKind_y hkd (by omega)) rfl rfl (Nat.le_of_ble_eq_true rfl) (by decide) (by decide) (Nat.le_refl _) (Nat.le_refl _) d_Mo_span_2 (fun v h1 hp => ?_)
  obtain ⟨rfl, rfl⟩ := hp
  refine a_if_eqN X 39 (by omega) d_Mo_span_5 (by decide) (fun c5 => ?_) (fun c5 => ?_)
  ·
    exfalso
    omega
  ·
    refine a_aload_n X 0 d_Mo_span_8 rfl rfl ?_
    refine a_iload_n X 2 d_Mo_span_9 rfl rfl ?_
    refine a_callV X (a := 203) (As := [.int _]) mq_203 rfl fb_Mo_isKind lk_Mo_95 im_Mo_isKind se_Mo_isKind (c_Mo_isKind_y hwn (by omega)) rfl rfl (Nat.le_of_ble_eq_true rfl) (by decide) (by decide) (Nat.le_refl _) (Nat.le_refl _) d_Mo_span_10 (fun v h1 hp => ?_)
    obtain ⟨rfl, rfl⟩ := hp
    refine a_if_eqN X 39 (by omega) d_Mo_span_13 (by decide) (fun c13 => ?_) (fun c13 => ?_)
    ·
      exfalso
      omega
    ·
      refine a_aload_n X 0 d_Mo_span_16 rfl rfl ?_
      refine a_iload_n X 3 d_Mo_span_17 rfl rfl ?_
      refine a_callV X (a := 203) (As := [.int _]) mq_203 rfl fb_Mo_isPlace lk_Mo_98 im_Mo_isPlace se_Mo_isPlace (c_Mo_isPlace_n hb) rfl rfl (Nat.le_of_ble_eq_true rfl) (by decide) (by decide) (Nat.le_refl _) (Nat.le_refl _) d_Mo_span_18 (fun v h1 hp => ?_)
      obtain ⟨rfl, rfl⟩ := hp
      refine a_if_eqN X 39 (by omega) d_Mo_span_21 (by decide) (fun c21 => ?_) (fun c21 => ?_)
      ·
        refine a_ldc2 X kc_Mo_145 d_Mo_span_39 ?_
        exact a_lret X d_Mo_span_42 (Nat.le_refl _) (Nat.le_refl _) ⟨rfl, rfl⟩
      ·
        exfalso
        omega
set_option maxHeartbeats 4000000 in
set_option maxRecDepth 20000 in
theorem c_Mo_span_j {E : ab_E} {l : Launch} {r : hR} {s : hS} {w c : hW} {b : hB} {d : hD} {k : hK} {t : hT} {ms mk : hA} {mp : hP} {mw : Nat → Int32} {mc : hC} {md : Nat × (Nat → Int32)} {mt : hF} {me : hE} {kd wn i : Nat} {y4 y5 : Int32} (hQ : okQ mk mp) (hkd : kd < mk.1) (hwn : wn < mk.1) (hi : i < mp.1) (hb : y4 < 0 ∨ nI mp.1 ≤ y4) : ab_Con E l y_Mo_span b_Mo_span 10 (some .long) 4 105 [.ref 204, .int (nI kd), .int (nI wn), .int (nI i), .int y4, .int y5] (hc r s w c b d k t ++ hm ms mk mp mw mc md mt me) 0 0 (fun v h1 => v = some (.long (-1)) ∧ h1 = hc r s w c b d k t ++ hm ms mk mp mw mc md mt me) := by
  have hn := hQ.1
  have hk4 := hQ.2.1
  refine ab_con (own := "HiddenRowsModel") (ini := false) (by decide) (fun h => by cases h) rfl (Nat.le_of_ble_eq_true rfl) ?_
  intro G m X
  show ab_R E G m 10 0 0 0 [(0, .ref 204), (1, .int (nI kd)), (2, .int (nI wn)), (3, .int (nI i)), (4, .int y4), (5, .int y5)] [] (hc r s w c b d k t ++ hm ms mk mp mw mc md mt me)
  refine a_aload_n X 0 d_Mo_span_0 rfl rfl ?_
  refine a_iload_n X 1 d_Mo_span_1 rfl rfl ?_
  refine a_callV X (a := 203) (As := [.int _]) mq_203 rfl fb_Mo_isKind lk_Mo_95 im_Mo_isKind se_Mo_isKind (c_Mo_isKind_y hkd (by omega)) rfl rfl (Nat.le_of_ble_eq_true rfl) (by decide) (by decide) (Nat.le_refl _) (Nat.le_refl _) d_Mo_span_2 (fun v h1 hp => ?_)
  obtain ⟨rfl, rfl⟩ := hp
  refine a_if_eqN X 39 (by omega) d_Mo_span_5 (by decide) (fun c5 => ?_) (fun c5 => ?_)
  ·
    exfalso
    omega
  ·
    refine a_aload_n X 0 d_Mo_span_8 rfl rfl ?_
    refine a_iload_n X 2 d_Mo_span_9 rfl rfl ?_
    refine a_callV X (a := 203) (As := [.int _]) mq_203 rfl fb_Mo_isKind lk_Mo_95 im_Mo_isKind se_Mo_isKind (c_Mo_isKind_y hwn (by omega)) rfl rfl (Nat.le_of_ble_eq_true rfl) (by decide) (by decide) (Nat.le_refl _) (Nat.le_refl _) d_Mo_span_10 (fun v h1 hp => ?_)
    obtain ⟨rfl, rfl⟩ := hp
    refine a_if_eqN X 39 (by omega) d_Mo_span_13 (by decide) (fun c13 => ?_) (fun c13 => ?_)
    ·
      exfalso
      omega
    ·
      refine a_aload_n X 0 d_Mo_span_16 rfl rfl ?_
      refine a_iload_n X 3 d_Mo_span_17 rfl rfl ?_
      refine a_callV X (a := 203) (As := [.int _]) mq_203 rfl fb_Mo_isPlace lk_Mo_98 im_Mo_isPlace se_Mo_isPlace (c_Mo_isPlace_y hi hn) rfl rfl (Nat.le_of_ble_eq_true rfl) (by decide) (by decide) (Nat.le_refl _) (Nat.le_refl _) d_Mo_span_18 (fun v h1 hp => ?_)
      obtain ⟨rfl, rfl⟩ := hp
      refine a_if_eqN X 39 (by omega) d_Mo_span_21 (by decide) (fun c21 => ?_) (fun c21 => ?_)
      ·
        exfalso
        omega
      ·
        refine a_aload_n X 0 d_Mo_span_24 rfl rfl ?_
        refine a_iload X d_Mo_span_25 rfl ?_
        refine a_callV X (a := 203) (As := [.int _]) mq_203 rfl fb_Mo_isPlace lk_Mo_98 im_Mo_isPlace se_Mo_isPlace (c_Mo_isPlace_n hb) rfl rfl (Nat.le_of_ble_eq_true rfl) (by decide) (by decide) (Nat.le_refl _) (Nat.le_refl _) d_Mo_span_27 (fun v h1 hp => ?_)
        obtain ⟨rfl, rfl⟩ := hp
        refine a_if_eqN X 39 (by omega) d_Mo_span_30 (by decide) (fun c30 => ?_) (fun c30 => ?_)
        ·
          refine a_ldc2 X kc_Mo_145 d_Mo_span_39 ?_
          exact a_lret X d_Mo_span_42 (Nat.le_refl _) (Nat.le_refl _) ⟨rfl, rfl⟩
        ·
          exfalso
          omega
set_option maxHeartbeats 4000000 in
set_option maxRecDepth 20000 in
theorem c_Mo_span_o {E : ab_E} {l : Launch} {r : hR} {s : hS} {w c : hW} {b : hB} {d : hD} {k : hK} {t : hT} {ms mk : hA} {mp : hP} {mw : Nat → Int32} {mc : hC} {md : Nat × (Nat → Int32)} {mt : hF} {me : hE} {kd wn i j : Nat} {y5 : Int32} (hQ : okQ mk mp) (hkd : kd < mk.1) (hwn : wn < mk.1) (hi : i < mp.1) (hj : j < mp.1) (hij : j < i) : ab_Con E l y_Mo_span b_Mo_span 10 (some .long) 4 105 [.ref 204, .int (nI kd), .int (nI wn), .int (nI i), .int (nI j), .int y5] (hc r s w c b d k t ++ hm ms mk mp mw mc md mt me) 0 0 (fun v h1 => v = some (.long (-1)) ∧ h1 = hc r s w c b d k t ++ hm ms mk mp mw mc md mt me) := by
  have hn := hQ.1
  have hk4 := hQ.2.1
  refine ab_con (own := "HiddenRowsModel") (ini := false) (by decide) (fun h => by cases h) rfl (Nat.le_of_ble_eq_true rfl) ?_
  intro G m X
  show ab_R E G m 10 0 0 0 [(0, .ref 204), (1, .int (nI kd)), (2, .int (nI wn)), (3, .int (nI i)), (4, .int (nI j)), (5, .int y5)] [] (hc r s w c b d k t ++ hm ms mk mp mw mc md mt me)
  refine a_aload_n X 0 d_Mo_span_0 rfl rfl ?_
  refine a_iload_n X 1 d_Mo_span_1 rfl rfl ?_
  refine a_callV X (a := 203) (As := [.int _]) mq_203 rfl fb_Mo_isKind lk_Mo_95 im_Mo_isKind se_Mo_isKind (c_Mo_isKind_y hkd (by omega)) rfl rfl (Nat.le_of_ble_eq_true rfl) (by decide) (by decide) (Nat.le_refl _) (Nat.le_refl _) d_Mo_span_2 (fun v h1 hp => ?_)
  obtain ⟨rfl, rfl⟩ := hp
  refine a_if_eqN X 39 (by omega) d_Mo_span_5 (by decide) (fun c5 => ?_) (fun c5 => ?_)
  ·
    exfalso
    omega
  ·
    refine a_aload_n X 0 d_Mo_span_8 rfl rfl ?_
    refine a_iload_n X 2 d_Mo_span_9 rfl rfl ?_
    refine a_callV X (a := 203) (As := [.int _]) mq_203 rfl fb_Mo_isKind lk_Mo_95 im_Mo_isKind se_Mo_isKind (c_Mo_isKind_y hwn (by omega)) rfl rfl (Nat.le_of_ble_eq_true rfl) (by decide) (by decide) (Nat.le_refl _) (Nat.le_refl _) d_Mo_span_10 (fun v h1 hp => ?_)
    obtain ⟨rfl, rfl⟩ := hp
    refine a_if_eqN X 39 (by omega) d_Mo_span_13 (by decide) (fun c13 => ?_) (fun c13 => ?_)
    ·
      exfalso
      omega
    ·
      refine a_aload_n X 0 d_Mo_span_16 rfl rfl ?_
      refine a_iload_n X 3 d_Mo_span_17 rfl rfl ?_
      refine a_callV X (a := 203) (As := [.int _]) mq_203 rfl fb_Mo_isPlace lk_Mo_98 im_Mo_isPlace se_Mo_isPlace (c_Mo_isPlace_y hi hn) rfl rfl (Nat.le_of_ble_eq_true rfl) (by decide) (by decide) (Nat.le_refl _) (Nat.le_refl _) d_Mo_span_18 (fun v h1 hp => ?_)
      obtain ⟨rfl, rfl⟩ := hp
      refine a_if_eqN X 39 (by omega) d_Mo_span_21 (by decide) (fun c21 => ?_) (fun c21 => ?_)
      ·
        exfalso
        omega
      ·
        refine a_aload_n X 0 d_Mo_span_24 rfl rfl ?_
        refine a_iload X d_Mo_span_25 rfl ?_
        refine a_callV X (a := 203) (As := [.int _]) mq_203 rfl fb_Mo_isPlace lk_Mo_98 im_Mo_isPlace se_Mo_isPlace (c_Mo_isPlace_y hj hn) rfl rfl (Nat.le_of_ble_eq_true rfl) (by decide) (by decide) (Nat.le_refl _) (Nat.le_refl _) d_Mo_span_27 (fun v h1 hp => ?_)
        obtain ⟨rfl, rfl⟩ := hp
        refine a_if_eqN X 39 (by omega) d_Mo_span_30 (by decide) (fun c30 => ?_) (fun c30 => ?_)
        ·
          exfalso
          omega
        ·
          refine a_iload_n X 3 d_Mo_span_33 rfl rfl ?_
          refine a_iload X d_Mo_span_34 rfl ?_
          refine a_icmp_leN X 43 (by omega) (by omega) d_Mo_span_36 (by decide) (fun c36 => ?_) (fun c36 => ?_)
          ·
            exfalso
            omega
          ·
            refine a_ldc2 X kc_Mo_145 d_Mo_span_39 ?_
            exact a_lret X d_Mo_span_42 (Nat.le_refl _) (Nat.le_refl _) ⟨rfl, rfl⟩
set_option maxHeartbeats 4000000 in
set_option maxRecDepth 20000 in
theorem c_Mo_span_x {E : ab_E} {l : Launch} {r : hR} {s : hS} {w c : hW} {b : hB} {d : hD} {k : hK} {t : hT} {ms mk : hA} {mp : hP} {mw : Nat → Int32} {mc : hC} {md : Nat × (Nat → Int32)} {mt : hF} {me : hE} {kd wn i j : Nat} {x : Int32} (hQ : okQ mk mp) (hkd : kd < mk.1) (hwn : wn < mk.1) (hi : i < mp.1) (hj : j < mp.1) (hij : i ≤ j) (hx : x ≠ 0 ∧ x ≠ nI 1) : ab_Con E l y_Mo_span b_Mo_span 10 (some .long) 4 105 [.ref 204, .int (nI kd), .int (nI wn), .int (nI i), .int (nI j), .int x] (hc r s w c b d k t ++ hm ms mk mp mw mc md mt me) 0 0 (fun v h1 => v = some (.long (-2)) ∧ h1 = hc r s w c b d k t ++ hm ms mk mp mw mc md mt me) := by
  have hn := hQ.1
  have hk4 := hQ.2.1
  refine ab_con (own := "HiddenRowsModel") (ini := false) (by decide) (fun h => by cases h) rfl (Nat.le_of_ble_eq_true rfl) ?_
  intro G m X
  show ab_R E G m 10 0 0 0 [(0, .ref 204), (1, .int (nI kd)), (2, .int (nI wn)), (3, .int (nI i)), (4, .int (nI j)), (5, .int x)] [] (hc r s w c b d k t ++ hm ms mk mp mw mc md mt me)
  refine a_aload_n X 0 d_Mo_span_0 rfl rfl ?_
  refine a_iload_n X 1 d_Mo_span_1 rfl rfl ?_
  refine a_callV X (a := 203) (As := [.int _]) mq_203 rfl fb_Mo_isKind lk_Mo_95 im_Mo_isKind se_Mo_isKind (c_Mo_isKind_y hkd (by omega)) rfl rfl (Nat.le_of_ble_eq_true rfl) (by decide) (by decide) (Nat.le_refl _) (Nat.le_refl _) d_Mo_span_2 (fun v h1 hp => ?_)
  obtain ⟨rfl, rfl⟩ := hp
  refine a_if_eqN X 39 (by omega) d_Mo_span_5 (by decide) (fun c5 => ?_) (fun c5 => ?_)
  ·
    exfalso
    omega
  ·
    refine a_aload_n X 0 d_Mo_span_8 rfl rfl ?_
    refine a_iload_n X 2 d_Mo_span_9 rfl rfl ?_
    refine a_callV X (a := 203) (As := [.int _]) mq_203 rfl fb_Mo_isKind lk_Mo_95 im_Mo_isKind se_Mo_isKind (c_Mo_isKind_y hwn (by omega)) rfl rfl (Nat.le_of_ble_eq_true rfl) (by decide) (by decide) (Nat.le_refl _) (Nat.le_refl _) d_Mo_span_10 (fun v h1 hp => ?_)
    obtain ⟨rfl, rfl⟩ := hp
    refine a_if_eqN X 39 (by omega) d_Mo_span_13 (by decide) (fun c13 => ?_) (fun c13 => ?_)
    ·
      exfalso
      omega
    ·
      refine a_aload_n X 0 d_Mo_span_16 rfl rfl ?_
      refine a_iload_n X 3 d_Mo_span_17 rfl rfl ?_
      refine a_callV X (a := 203) (As := [.int _]) mq_203 rfl fb_Mo_isPlace lk_Mo_98 im_Mo_isPlace se_Mo_isPlace (c_Mo_isPlace_y hi hn) rfl rfl (Nat.le_of_ble_eq_true rfl) (by decide) (by decide) (Nat.le_refl _) (Nat.le_refl _) d_Mo_span_18 (fun v h1 hp => ?_)
      obtain ⟨rfl, rfl⟩ := hp
      refine a_if_eqN X 39 (by omega) d_Mo_span_21 (by decide) (fun c21 => ?_) (fun c21 => ?_)
      ·
        exfalso
        omega
      ·
        refine a_aload_n X 0 d_Mo_span_24 rfl rfl ?_
        refine a_iload X d_Mo_span_25 rfl ?_
        refine a_callV X (a := 203) (As := [.int _]) mq_203 rfl fb_Mo_isPlace lk_Mo_98 im_Mo_isPlace se_Mo_isPlace (c_Mo_isPlace_y hj hn) rfl rfl (Nat.le_of_ble_eq_true rfl) (by decide) (by decide) (Nat.le_refl _) (Nat.le_refl _) d_Mo_span_27 (fun v h1 hp => ?_)
        obtain ⟨rfl, rfl⟩ := hp
        refine a_if_eqN X 39 (by omega) d_Mo_span_30 (by decide) (fun c30 => ?_) (fun c30 => ?_)
        ·
          exfalso
          omega
        ·
          refine a_iload_n X 3 d_Mo_span_33 rfl rfl ?_
          refine a_iload X d_Mo_span_34 rfl ?_
          refine a_icmp_leN X 43 (by omega) (by omega) d_Mo_span_36 (by decide) (fun c36 => ?_) (fun c36 => ?_)
          ·
            refine a_iload X d_Mo_span_43 rfl ?_
            refine a_if_lt X 54 d_Mo_span_45 (by decide) (fun c45 => ?_) (fun c45 => ?_)
            ·
              refine a_ldc2 X kc_Mo_147 d_Mo_span_54 ?_
              exact a_lret X d_Mo_span_57 (Nat.le_refl _) (Nat.le_refl _) ⟨rfl, rfl⟩
            ·
              refine a_iload X d_Mo_span_48 rfl ?_
              refine a_iconst X (v := nI 1) d_Mo_span_50 (by decide) ?_
              refine a_icmp_le X 58 d_Mo_span_51 (by decide) (fun c51 => ?_) (fun c51 => ?_)
              ·
                exfalso
                rcases i_n2 hx with q | q
                · exact c45 q
                · exact q c51
              ·
                refine a_ldc2 X kc_Mo_147 d_Mo_span_54 ?_
                exact a_lret X d_Mo_span_57 (Nat.le_refl _) (Nat.le_refl _) ⟨rfl, rfl⟩
          ·
            exfalso
            omega
