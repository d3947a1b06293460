theorem i_n9 {e : Int32} (h : nI 9 ≤ e) : ¬ e ≤ nI 8 := fun q => absurd (Int32.le_trans h q) (by decide)
theorem i_n4 {e : Int32} (h : nI 4 ≤ e) : ¬ e ≤ nI 3 := fun q => absurd (Int32.le_trans h q) (by decide)
theorem i_le3 {e : Int32} (h : e < nI 4) : e ≤ nI 3 := by
  have h1 : e.toInt < (nI 4).toInt := Int32.lt_iff_toInt_lt.mp h
  have h2 : (nI 4).toInt = (nI 3).toInt + 1 := by decide
  exact Int32.le_iff_toInt_le.mpr (by omega)
def mW (f : Nat → Nat) (q i : Nat) : Nat → Nat := fun j => if 9 * q ≤ j ∧ j < 9 * q + i then (if j < 9 * q + 3 then 1 else 0) else f j
theorem mW_zero (f : Nat → Nat) (q : Nat) : mW f q 0 = f := by
  funext j
  show (if _ then _ else _) = _
  rw [if_neg (by omega)]
theorem mW_one (f : Nat → Nat) (q i : Nat) (h : i < 3) : va_up (mW f q i) (9 * q + i) 1 = mW f q (i + 1) := by
  funext j
  show (if j = 9 * q + i then 1 else mW f q i j) = _
  simp only [mW]
  repeat' split
  all_goals first | rfl | omega
theorem mW_nul (f : Nat → Nat) (q i : Nat) (h : 3 ≤ i) : va_up (mW f q i) (9 * q + i) 0 = mW f q (i + 1) := by
  funext j
  show (if j = 9 * q + i then 0 else mW f q i j) = _
  simp only [mW]
  repeat' split
  all_goals first | rfl | omega
def mV (g : Nat → Nat) (q i : Nat) : Nat → Nat := fun j => if (j / 4 = q ∧ j % 4 < i) ∨ (j % 4 = q ∧ j / 4 < i) then 0 else g j
theorem mV_zero (g : Nat → Nat) (q : Nat) : mV g q 0 = g := by
  funext j
  show (if _ then _ else _) = _
  rw [if_neg (by omega)]
theorem mV_succ (g : Nat → Nat) (q i : Nat) (hq : q < 4) (h : i ≤ q) : va_up (va_up (mV g q i) (4 * q + i) 0) (4 * i + q) 0 = mV g q (i + 1) := by
  funext j
  show (if j = 4 * i + q then 0 else if j = 4 * q + i then 0 else mV g q i j) = _
  simp only [mV]
  repeat' split
  all_goals first | rfl | omega
set_option maxHeartbeats 4000000 in
set_option maxRecDepth 20000 in
theorem c_Mo_chg {E : ab_E} {l : Launch} {r : hR} {s : hS} {w c : hW} {b : hB} {d : hD} {k : hK} {t : hT} {ms mk : hA} {mp : hP} {mw : Nat → Int32} {mc : hC} {md : Nat × (Nat → Int32)} {mt : hF} {me : hE}  : ab_Con E l y_Mo_change b_Mo_change 1 none 0 0 [.ref 204] (hc r s w c b d k t ++ hm ms mk mp mw mc md mt me) 0 0 (fun v h1 => v = none ∧ h1 = hc r s w c b d k t ++ hm ms mk mp mw (0, mc.2) (0, md.2) mt me) := by
  refine ab_con (own := "HiddenRowsModel") (ini := false) (by decide) (fun h => by cases h) rfl (Nat.le_of_ble_eq_true rfl) ?_
  intro G m X
  show ab_R E G m 1 0 0 0 [(0, .ref 204)] [] (hc r s w c b d k t ++ hm ms mk mp mw mc md mt me)
  refine a_aload_n X 0 d_Mo_change_0 rfl rfl ?_
  refine a_iconst X (v := nI 0) d_Mo_change_1 (by decide) ?_
  refine a_put X ff_Mo_68 d_Mo_change_2 mq_203 (Nat.le_of_ble_eq_true rfl) rfl rfl ?_
  refine ab_hp mo_set ?_
  refine a_aload_n X 0 d_Mo_change_5 rfl rfl ?_
  refine a_iconst X (v := nI 0) d_Mo_change_6 (by decide) ?_
  refine a_put X ff_Mo_72 d_Mo_change_7 mq_203 (Nat.le_of_ble_eq_true rfl) rfl rfl ?_
  refine ab_hp mo_set ?_
  exact a_vret X d_Mo_change_10 (Nat.le_refl _) (Nat.le_refl _) ⟨rfl, rfl⟩
set_option maxHeartbeats 4000000 in
set_option maxRecDepth 20000 in
theorem c_Mo_isState_y {E : ab_E} {l : Launch} {r : hR} {s : hS} {w c : hW} {b : hB} {d : hD} {k : hK} {t : hT} {ms mk : hA} {mp : hP} {mw : Nat → Int32} {mc : hC} {md : Nat × (Nat → Int32)} {mt : hF} {me : hE} {j : Nat} (hj : j < ms.1) (hl : ms.1 ≤ 6) : ab_Con E l y_Mo_isState b_Mo_isState 2 (some .boolean) 0 0 [.ref 204, .int (nI j)] (hc r s w c b d k t ++ hm ms mk mp mw mc md mt me) 0 0 (fun v h1 => v = some (.int (nI 1)) ∧ h1 = hc r s w c b d k t ++ hm ms mk mp mw mc md mt me) := by
  refine ab_con (own := "HiddenRowsModel") (ini := false) (by decide) (fun h => by cases h) rfl (Nat.le_of_ble_eq_true rfl) ?_
  intro G m X
  show ab_R E G m 2 0 0 0 [(0, .ref 204), (1, .int (nI j))] [] (hc r s w c b d k t ++ hm ms mk mp mw mc md mt me)
  refine a_iload_n X 1 d_Mo_isState_0 rfl rfl ?_
  refine a_if_ltN X 16 (by omega) d_Mo_isState_1 (by decide) ?_
  refine a_iload_n X 1 d_Mo_isState_4 rfl rfl ?_
  refine a_aload_n X 0 d_Mo_isState_5 rfl rfl ?_
  refine a_get X ff_Mo_75 d_Mo_isState_6 mq_203 rfl ?_
  refine a_icmp_geN X 16 (by omega) (by omega) d_Mo_isState_9 (by decide) (fun c9 => ?_) (fun c9 => ?_)
  ·
    exfalso
    omega
  ·
    refine a_iconst X (v := nI 1) d_Mo_isState_12 (by decide) ?_
    refine a_goto X 17 d_Mo_isState_13 (by decide) ?_
    exact a_zret X rfl d_Mo_isState_17 (Nat.le_refl _) (Nat.le_refl _) ⟨rfl, rfl⟩
set_option maxHeartbeats 4000000 in
set_option maxRecDepth 20000 in
theorem c_Mo_isState_n {E : ab_E} {l : Launch} {r : hR} {s : hS} {w c : hW} {b : hB} {d : hD} {k : hK} {t : hT} {ms mk : hA} {mp : hP} {mw : Nat → Int32} {mc : hC} {md : Nat × (Nat → Int32)} {mt : hF} {me : hE} {x : Int32} (hx : x < 0 ∨ nI ms.1 ≤ x) : ab_Con E l y_Mo_isState b_Mo_isState 2 (some .boolean) 0 0 [.ref 204, .int x] (hc r s w c b d k t ++ hm ms mk mp mw mc md mt me) 0 0 (fun v h1 => v = some (.int (nI 0)) ∧ h1 = hc r s w c b d k t ++ hm ms mk mp mw mc md mt me) := by
  refine ab_con (own := "HiddenRowsModel") (ini := false) (by decide) (fun h => by cases h) rfl (Nat.le_of_ble_eq_true rfl) ?_
  intro G m X
  show ab_R E G m 2 0 0 0 [(0, .ref 204), (1, .int x)] [] (hc r s w c b d k t ++ hm ms mk mp mw mc md mt me)
  refine a_iload_n X 1 d_Mo_isState_0 rfl rfl ?_
  refine a_if_lt X 16 d_Mo_isState_1 (by decide) (fun c1 => ?_) (fun c1 => ?_)
  ·
    refine a_iconst X (v := nI 0) d_Mo_isState_16 (by decide) ?_
    exact a_zret X rfl d_Mo_isState_17 (Nat.le_refl _) (Nat.le_refl _) ⟨rfl, rfl⟩
  ·
    refine a_iload_n X 1 d_Mo_isState_4 rfl rfl ?_
    refine a_aload_n X 0 d_Mo_isState_5 rfl rfl ?_
    refine a_get X ff_Mo_75 d_Mo_isState_6 mq_203 rfl ?_
    refine a_icmp_ge X 16 d_Mo_isState_9 (by decide) (fun c9 => ?_) (fun c9 => ?_)
    ·
      refine a_iconst X (v := nI 0) d_Mo_isState_16 (by decide) ?_
      exact a_zret X rfl d_Mo_isState_17 (Nat.le_refl _) (Nat.le_refl _) ⟨rfl, rfl⟩
    ·
      exfalso
      rcases hx with q | q
      · exact c1 q
      · exact c9 q
set_option maxHeartbeats 4000000 in
set_option maxRecDepth 20000 in
theorem c_Mo_isKind_y {E : ab_E} {l : Launch} {r : hR} {s : hS} {w c : hW} {b : hB} {d : hD} {k : hK} {t : hT} {ms mk : hA} {mp : hP} {mw : Nat → Int32} {mc : hC} {md : Nat × (Nat → Int32)} {mt : hF} {me : hE} {j : Nat} (hj : j < mk.1) (hl : mk.1 ≤ 6) : ab_Con E l y_Mo_isKind b_Mo_isKind 2 (some .boolean) 0 0 [.ref 204, .int (nI j)] (hc r s w c b d k t ++ hm ms mk mp mw mc md mt me) 0 0 (fun v h1 => v = some (.int (nI 1)) ∧ h1 = hc r s w c b d k t ++ hm ms mk mp mw mc md mt me) := by
  refine ab_con (own := "HiddenRowsModel") (ini := false) (by decide) (fun h => by cases h) rfl (Nat.le_of_ble_eq_true rfl) ?_
  intro G m X
  show ab_R E G m 2 0 0 0 [(0, .ref 204), (1, .int (nI j))] [] (hc r s w c b d k t ++ hm ms mk mp mw mc md mt me)
  refine a_iload_n X 1 d_Mo_isKind_0 rfl rfl ?_
  refine a_if_ltN X 16 (by omega) d_Mo_isKind_1 (by decide) ?_
  refine a_iload_n X 1 d_Mo_isKind_4 rfl rfl ?_
  refine a_aload_n X 0 d_Mo_isKind_5 rfl rfl ?_
  refine a_get X ff_Mo_79 d_Mo_isKind_6 mq_203 rfl ?_
  refine a_icmp_geN X 16 (by omega) (by omega) d_Mo_isKind_9 (by decide) (fun c9 => ?_) (fun c9 => ?_)
  ·
    exfalso
    omega
  ·
    refine a_iconst X (v := nI 1) d_Mo_isKind_12 (by decide) ?_
    refine a_goto X 17 d_Mo_isKind_13 (by decide) ?_
    exact a_zret X rfl d_Mo_isKind_17 (Nat.le_refl _) (Nat.le_refl _) ⟨rfl, rfl⟩
set_option maxHeartbeats 4000000 in
set_option maxRecDepth 20000 in
theorem c_Mo_isKind_n {E : ab_E} {l : Launch} {r : hR} {s : hS} {w c : hW} {b : hB} {d : hD} {k : hK} {t : hT} {ms mk : hA} {mp : hP} {mw : Nat → Int32} {mc : hC} {md : Nat × (Nat → Int32)} {mt : hF} {me : hE} {x : Int32} (hx : x < 0 ∨ nI mk.1 ≤ x) : ab_Con E l y_Mo_isKind b_Mo_isKind 2 (some .boolean) 0 0 [.ref 204, .int x] (hc r s w c b d k t ++ hm ms mk mp mw mc md mt me) 0 0 (fun v h1 => v = some (.int (nI 0)) ∧ h1 = hc r s w c b d k t ++ hm ms mk mp mw mc md mt me) := by
  refine ab_con (own := "HiddenRowsModel") (ini := false) (by decide) (fun h => by cases h) rfl (Nat.le_of_ble_eq_true rfl) ?_
  intro G m X
  show ab_R E G m 2 0 0 0 [(0, .ref 204), (1, .int x)] [] (hc r s w c b d k t ++ hm ms mk mp mw mc md mt me)
  refine a_iload_n X 1 d_Mo_isKind_0 rfl rfl ?_
  refine a_if_lt X 16 d_Mo_isKind_1 (by decide) (fun c1 => ?_) (fun c1 => ?_)
  ·
    refine a_iconst X (v := nI 0) d_Mo_isKind_16 (by decide) ?_
    exact a_zret X rfl d_Mo_isKind_17 (Nat.le_refl _) (Nat.le_refl _) ⟨rfl, rfl⟩
  ·
    refine a_iload_n X 1 d_Mo_isKind_4 rfl rfl ?_
    refine a_aload_n X 0 d_Mo_isKind_5 rfl rfl ?_
    refine a_get X ff_Mo_79 d_Mo_isKind_6 mq_203 rfl ?_
    refine a_icmp_ge X 16 d_Mo_isKind_9 (by decide) (fun c9 => ?_) (fun c9 => ?_)
    ·
      refine a_iconst X (v := nI 0) d_Mo_isKind_16 (by decide) ?_
      exact a_zret X rfl d_Mo_isKind_17 (Nat.le_refl _) (Nat.le_refl _) ⟨rfl, rfl⟩
    ·
      exfalso
      rcases hx with q | q
      · exact c1 q
      · exact c9 q
set_option maxHeartbeats 4000000 in
set_option maxRecDepth 20000 in
theorem c_Mo_isPlace_y {E : ab_E} {l : Launch} {r : hR} {s : hS} {w c : hW} {b : hB} {d : hD} {k : hK} {t : hT} {ms mk : hA} {mp : hP} {mw : Nat → Int32} {mc : hC} {md : Nat × (Nat → Int32)} {mt : hF} {me : hE} {j : Nat} (hj : j < mp.1) (hl : mp.1 ≤ 6) : ab_Con E l y_Mo_isPlace b_Mo_isPlace 2 (some .boolean) 0 0 [.ref 204, .int (nI j)] (hc r s w c b d k t ++ hm ms mk mp mw mc md mt me) 0 0 (fun v h1 => v = some (.int (nI 1)) ∧ h1 = hc r s w c b d k t ++ hm ms mk mp mw mc md mt me) := by
  refine ab_con (own := "HiddenRowsModel") (ini := false) (by decide) (fun h => by cases h) rfl (Nat.le_of_ble_eq_true rfl) ?_
  intro G m X
  show ab_R E G m 2 0 0 0 [(0, .ref 204), (1, .int (nI j))] [] (hc r s w c b d k t ++ hm ms mk mp mw mc md mt me)
  refine a_iload_n X 1 d_Mo_isPlace_0 rfl rfl ?_
  refine a_if_ltN X 16 (by omega) d_Mo_isPlace_1 (by decide) ?_
  refine a_iload_n X 1 d_Mo_isPlace_4 rfl rfl ?_
  refine a_aload_n X 0 d_Mo_isPlace_5 rfl rfl ?_
  refine a_get X ff_Mo_82 d_Mo_isPlace_6 mq_203 rfl ?_
  refine a_icmp_geN X 16 (by omega) (by omega) d_Mo_isPlace_9 (by decide) (fun c9 => ?_) (fun c9 => ?_)
  ·
    exfalso
    omega
  ·
    refine a_iconst X (v := nI 1) d_Mo_isPlace_12 (by decide) ?_
    refine a_goto X 17 d_Mo_isPlace_13 (by decide) ?_
    exact a_zret X rfl d_Mo_isPlace_17 (Nat.le_refl _) (Nat.le_refl _) ⟨rfl, rfl⟩
set_option maxHeartbeats 4000000 in
set_option maxRecDepth 20000 in
theorem c_Mo_isPlace_n {E : ab_E} {l : Launch} {r : hR} {s : hS} {w c : hW} {b : hB} {d : hD} {k : hK} {t : hT} {ms mk : hA} {mp : hP} {mw : Nat → Int32} {mc : hC} {md : Nat × (Nat → Int32)} {mt : hF} {me : hE} {x : Int32} (hx : x < 0 ∨ nI mp.1 ≤ x) : ab_Con E l y_Mo_isPlace b_Mo_isPlace 2 (some .boolean) 0 0 [.ref 204, .int x] (hc r s w c b d k t ++ hm ms mk mp mw mc md mt me) 0 0 (fun v h1 => v = some (.int (nI 0)) ∧ h1 = hc r s w c b d k t ++ hm ms mk mp mw mc md mt me) := by
  refine ab_con (own := "HiddenRowsModel") (ini := false) (by decide) (fun h => by cases h) rfl (Nat.le_of_ble_eq_true rfl) ?_
  intro G m X
  show ab_R E G m 2 0 0 0 [(0, .ref 204), (1, .int x)] [] (hc r s w c b d k t ++ hm ms mk mp mw mc md mt me)
  refine a_iload_n X 1 d_Mo_isPlace_0 rfl rfl ?_
  refine a_if_lt X 16 d_Mo_isPlace_1 (by decide) (fun c1 => ?_) (fun c1 => ?_)
  ·
    refine a_iconst X (v := nI 0) d_Mo_isPlace_16 (by decide) ?_
    exact a_zret X rfl d_Mo_isPlace_17 (Nat.le_refl _) (Nat.le_refl _) ⟨rfl, rfl⟩
  ·
    refine a_iload_n X 1 d_Mo_isPlace_4 rfl rfl ?_
    refine a_aload_n X 0 d_Mo_isPlace_5 rfl rfl ?_
    refine a_get X ff_Mo_82 d_Mo_isPlace_6 mq_203 rfl ?_
    refine a_icmp_ge X 16 d_Mo_isPlace_9 (by decide) (fun c9 => ?_) (fun c9 => ?_)
    ·
      refine a_iconst X (v := nI 0) d_Mo_isPlace_16 (by decide) ?_
      exact a_zret X rfl d_Mo_isPlace_17 (Nat.le_refl _) (Nat.le_refl _) ⟨rfl, rfl⟩
    ·
      exfalso
      rcases hx with q | q
      · exact c1 q
      · exact c9 q
set_option maxHeartbeats 4000000 in
set_option maxRecDepth 20000 in
theorem c_Mo_isW_y {E : ab_E} {l : Launch} {Z : List ab_C} {x : Nat} (hx : x ≤ 4) : ab_Con E l y_Mo_isWeight b_Mo_isWeight 1 (some .boolean) 0 0 [.int (nI x)] (Z) 0 0 (fun v h1 => v = some (.int (nI 1)) ∧ h1 = Z) := by
  refine ab_con (own := "HiddenRowsModel") (ini := false) (by decide) (fun h => by cases h) rfl (Nat.le_of_ble_eq_true rfl) ?_
  intro G m X
  show ab_R E G m 1 0 0 0 [(0, .int (nI x))] [] (Z)
  refine a_iload_n X 0 d_Mo_isWeight_0 rfl rfl ?_
  refine a_if_ltN X 13 (by omega) d_Mo_isWeight_1 (by decide) ?_
  refine a_iload_n X 0 d_Mo_isWeight_4 rfl rfl ?_
  refine a_iconst X (v := nI 4) d_Mo_isWeight_5 (by decide) ?_
  refine a_icmp_gtN X 13 (by omega) (by omega) d_Mo_isWeight_6 (by decide) (fun c6 => ?_) (fun c6 => ?_)
  ·
    exfalso
    omega
  ·
    refine a_iconst X (v := nI 1) d_Mo_isWeight_9 (by decide) ?_
    refine a_goto X 14 d_Mo_isWeight_10 (by decide) ?_
    exact a_zret X rfl d_Mo_isWeight_14 (Nat.le_refl _) (Nat.le_refl _) ⟨rfl, rfl⟩
set_option maxHeartbeats 4000000 in
set_option maxRecDepth 20000 in
theorem c_Mo_isW_n {E : ab_E} {l : Launch} {Z : List ab_C} {x : Int32} (hx : x < 0 ∨ nI 4 < x) : ab_Con E l y_Mo_isWeight b_Mo_isWeight 1 (some .boolean) 0 0 [.int x] (Z) 0 0 (fun v h1 => v = some (.int (nI 0)) ∧ h1 = Z) := by
  refine ab_con (own := "HiddenRowsModel") (ini := false) (by decide) (fun h => by cases h) rfl (Nat.le_of_ble_eq_true rfl) ?_
  intro G m X
  show ab_R E G m 1 0 0 0 [(0, .int x)] [] (Z)
  refine a_iload_n X 0 d_Mo_isWeight_0 rfl rfl ?_
  refine a_if_lt X 13 d_Mo_isWeight_1 (by decide) (fun c1 => ?_) (fun c1 => ?_)
  ·
    refine a_iconst X (v := nI 0) d_Mo_isWeight_13 (by decide) ?_
    exact a_zret X rfl d_Mo_isWeight_14 (Nat.le_refl _) (Nat.le_refl _) ⟨rfl, rfl⟩
  ·
    refine a_iload_n X 0 d_Mo_isWeight_4 rfl rfl ?_
    refine a_iconst X (v := nI 4) d_Mo_isWeight_5 (by decide) ?_
    refine a_icmp_gt X 13 d_Mo_isWeight_6 (by decide) (fun c6 => ?_) (fun c6 => ?_)
    ·
      refine a_iconst X (v := nI 0) d_Mo_isWeight_13 (by decide) ?_
      exact a_zret X rfl d_Mo_isWeight_14 (Nat.le_refl _) (Nat.le_refl _) ⟨rfl, rfl⟩
    ·
      exfalso
      rcases hx with q | q
      · exact c1 q
      · exact c6 q
set_option maxHeartbeats 4000000 in
set_option maxRecDepth 20000 in
theorem c_Mo_weight_ok {E : ab_E} {l : Launch} {r : hR} {s : hS} {w c : hW} {b : hB} {d : hD} {k : hK} {t : hT} {ms mk : hA} {mp : hP} {mw : Nat → Int32} {mc : hC} {md : Nat × (Nat → Int32)} {mt : hF} {me : hE} {j z x : Nat} (hq : ms.1 ≤ 4) (hj : j < ms.1) (hz : z < 9) (hx : x ≤ 4) : ab_Con E l y_Mo_weight b_Mo_weight 5 (some .int) 1 21 [.ref 204, .int (nI j), .int (nI z), .int (nI x)] (hc r s w c b d k t ++ hm ms mk mp mw mc md mt me) 0 0 (fun v h1 => v = some (.int (nI (ms.2.1 (9 * j + z)))) ∧ h1 = hc r s w c b d k t ++ hm (ms.1, va_up ms.2.1 (9 * j + z) x, ms.2.2) mk mp mw (0, mc.2) (0, md.2) mt me) := by
  refine ab_con (own := "HiddenRowsModel") (ini := false) (by decide) (fun h => by cases h) rfl (Nat.le_of_ble_eq_true rfl) ?_
  intro G m X
  show ab_R E G m 5 0 0 0 [(0, .ref 204), (1, .int (nI j)), (2, .int (nI z)), (3, .int (nI x))] [] (hc r s w c b d k t ++ hm ms mk mp mw mc md mt me)
  refine a_aload_n X 0 d_Mo_weight_0 rfl rfl ?_
  refine a_iload_n X 1 d_Mo_weight_1 rfl rfl ?_
  refine a_callV X (a := 203) (As := [.int _]) mq_203 rfl fb_Mo_isState lk_Mo_88 im_Mo_isState se_Mo_isState (c_Mo_isState_y hj (by omega)) rfl rfl (Nat.le_of_ble_eq_true rfl) (by decide) (by decide) (Nat.le_refl _) (Nat.le_refl _) d_Mo_weight_2 (fun v h1 hp => ?_)
  obtain ⟨rfl, rfl⟩ := hp
  refine a_if_eqN X 18 (by omega) d_Mo_weight_5 (by decide) (fun c5 => ?_) (fun c5 => ?_)
  ·
    exfalso
    omega
  ·
    refine a_iload_n X 2 d_Mo_weight_8 rfl rfl ?_
    refine a_if_ltN X 18 (by omega) d_Mo_weight_9 (by decide) ?_
    refine a_iload_n X 2 d_Mo_weight_12 rfl rfl ?_
    refine a_bipush X (v := nI 8) d_Mo_weight_13 (by decide) ?_
    refine a_icmp_leN X 20 (by omega) (by omega) d_Mo_weight_15 (by decide) (fun c15 => ?_) (fun c15 => ?_)
    ·
      refine a_iload_n X 3 d_Mo_weight_20 rfl rfl ?_
      refine a_callS X (As := [.int _]) fb_Mo_isWeight lk_Mo_92 sm_Mo_isWeight (c_Mo_isW_y hx) rfl rfl (Nat.le_of_ble_eq_true rfl) (by decide) (by decide) (Nat.le_refl _) (Nat.le_refl _) d_Mo_weight_21 (fun v h1 hp => ?_)
      obtain ⟨rfl, rfl⟩ := hp
      refine a_if_neN X 30 (by omega) d_Mo_weight_24 (by decide) (fun c24 => ?_) (fun c24 => ?_)
      ·
        refine a_aload_n X 0 d_Mo_weight_30 rfl rfl ?_
        refine a_get X ff_Mo_7 d_Mo_weight_31 mq_203 rfl ?_
        refine a_bipush X (v := nI 9) d_Mo_weight_34 (by decide) ?_
        refine a_iload_n X 1 d_Mo_weight_36 rfl rfl ?_
        refine a_imul X d_Mo_weight_37 ?_
        refine ab_topi (pk_mul _ _) ?_
        refine a_iload_n X 2 d_Mo_weight_38 rfl rfl ?_
        refine a_iadd X d_Mo_weight_39 ?_
        refine ab_topi (nI_add _ _) ?_
        refine a_iald X d_Mo_weight_40 mq_204 rfl (ab_ix_nI (by omega) (by decide)) ?_
        refine a_istore X d_Mo_weight_41 (by decide) ?_
        refine a_aload_n X 0 d_Mo_weight_43 rfl rfl ?_
        refine a_get X ff_Mo_7 d_Mo_weight_44 mq_203 rfl ?_
        refine a_bipush X (v := nI 9) d_Mo_weight_47 (by decide) ?_
        refine a_iload_n X 1 d_Mo_weight_49 rfl rfl ?_
        refine a_imul X d_Mo_weight_50 ?_
        refine ab_topi (pk_mul _ _) ?_
        refine a_iload_n X 2 d_Mo_weight_51 rfl rfl ?_
        refine a_iadd X d_Mo_weight_52 ?_
        refine ab_topi (nI_add _ _) ?_
        refine a_iload_n X 3 d_Mo_weight_53 rfl rfl ?_
        refine a_iast X d_Mo_weight_54 mq_204 rfl (ab_ix_nI (by omega) (by decide)) ?_
        refine ab_hp ma_weights ?_
        refine a_aload_n X 0 d_Mo_weight_55 rfl rfl ?_
        refine a_callV X (a := 203) (As := []) mq_203 rfl fb_Mo_change lk_Mo_85 im_Mo_change se_Mo_change (c_Mo_chg) rfl rfl (Nat.le_of_ble_eq_true rfl) (by decide) (by decide) (Nat.le_refl _) (Nat.le_refl _) d_Mo_weight_56 (fun v h1 hp => ?_)
        obtain ⟨rfl, rfl⟩ := hp
        refine a_iload X d_Mo_weight_59 rfl ?_
        exact a_iret X d_Mo_weight_61 (Nat.le_refl _) (Nat.le_refl _) ⟨rfl, rfl⟩
      ·
        exfalso
        omega
    ·
      exfalso
      omega
set_option maxHeartbeats 4000000 in
set_option maxRecDepth 20000 in
theorem c_Mo_weight_s {E : ab_E} {l : Launch} {r : hR} {s : hS} {w c : hW} {b : hB} {d : hD} {k : hK} {t : hT} {ms mk : hA} {mp : hP} {mw : Nat → Int32} {mc : hC} {md : Nat × (Nat → Int32)} {mt : hF} {me : hE} {a e x : Int32} (ha : a < 0 ∨ nI ms.1 ≤ a) : ab_Con E l y_Mo_weight b_Mo_weight 5 (some .int) 1 21 [.ref 204, .int a, .int e, .int x] (hc r s w c b d k t ++ hm ms mk mp mw mc md mt me) 0 0 (fun v h1 => v = some (.int (-1)) ∧ h1 = hc r s w c b d k t ++ hm ms mk mp mw mc md mt me) := by
  refine ab_con (own := "HiddenRowsModel") (ini := false) (by decide) (fun h => by cases h) rfl (Nat.le_of_ble_eq_true rfl) ?_
  intro G m X
  show ab_R E G m 5 0 0 0 [(0, .ref 204), (1, .int a), (2, .int e), (3, .int x)] [] (hc r s w c b d k t ++ hm ms mk mp mw mc md mt me)
  refine a_aload_n X 0 d_Mo_weight_0 rfl rfl ?_
  refine a_iload_n X 1 d_Mo_weight_1 rfl rfl ?_
  refine a_callV X (a := 203) (As := [.int _]) mq_203 rfl fb_Mo_isState lk_Mo_88 im_Mo_isState se_Mo_isState (c_Mo_isState_n ha) rfl rfl (Nat.le_of_ble_eq_true rfl) (by decide) (by decide) (Nat.le_refl _) (Nat.le_refl _) d_Mo_weight_2 (fun v h1 hp => ?_)
  obtain ⟨rfl, rfl⟩ := hp
  refine a_if_eqN X 18 (by omega) d_Mo_weight_5 (by decide) (fun c5 => ?_) (fun c5 => ?_)
  ·
    refine a_iconst X (v := -1) d_Mo_weight_18 (by decide) ?_
    exact a_iret X d_Mo_weight_19 (Nat.le_refl _) (Nat.le_refl _) ⟨rfl, rfl⟩
  ·
    exfalso
    omega
set_option maxHeartbeats 4000000 in
set_option maxRecDepth 20000 in
theorem c_Mo_weight_w {E : ab_E} {l : Launch} {r : hR} {s : hS} {w c : hW} {b : hB} {d : hD} {k : hK} {t : hT} {ms mk : hA} {mp : hP} {mw : Nat → Int32} {mc : hC} {md : Nat × (Nat → Int32)} {mt : hF} {me : hE} {j : Nat} {e x : Int32} (hq : ms.1 ≤ 4) (hj : j < ms.1) (he : e < 0 ∨ nI 9 ≤ e) : ab_Con E l y_Mo_weight b_Mo_weight 5 (some .int) 1 21 [.ref 204, .int (nI j), .int e, .int x] (hc r s w c b d k t ++ hm ms mk mp mw mc md mt me) 0 0 (fun v h1 => v = some (.int (-1)) ∧ h1 = hc r s w c b d k t ++ hm ms mk mp mw mc md mt me) := by
  refine ab_con (own := "HiddenRowsModel") (ini := false) (by decide) (fun h => by cases h) rfl (Nat.le_of_ble_eq_true rfl) ?_
  intro G m X
  show ab_R E G m 5 0 0 0 [(0, .ref 204), (1, .int (nI j)), (2, .int e), (3, .int x)] [] (hc r s w c b d k t ++ hm ms mk mp mw mc md mt me)
  refine a_aload_n X 0 d_Mo_weight_0 rfl rfl ?_
  refine a_iload_n X 1 d_Mo_weight_1 rfl rfl ?_
  refine a_callV X (a := 203) (As := [.int _]) mq_203 rfl fb_Mo_isState lk_Mo_88 im_Mo_isState se_Mo_isState (c_Mo_isState_y hj (by omega)) rfl rfl (Nat.le_of_ble_eq_true rfl) (by decide) (by decide) (Nat.le_refl _) (Nat.le_refl _) d_Mo_weight_2 (fun v h1 hp => ?_)
  obtain ⟨rfl, rfl⟩ := hp
  refine a_if_eqN X 18 (by omega) d_Mo_weight_5 (by decide) (fun c5 => ?_) (fun c5 => ?_)
  ·
    exfalso
    omega
  ·
    refine a_iload_n X 2 d_Mo_weight_8 rfl rfl ?_
    refine a_if_lt X 18 d_Mo_weight_9 (by decide) (fun c9 => ?_) (fun c9 => ?_)
    ·
      refine a_iconst X (v := -1) d_Mo_weight_18 (by decide) ?_
      exact a_iret X d_Mo_weight_19 (Nat.le_refl _) (Nat.le_refl _) ⟨rfl, rfl⟩
    ·
      refine a_iload_n X 2 d_Mo_weight_12 rfl rfl ?_
      refine a_bipush X (v := nI 8) d_Mo_weight_13 (by decide) ?_
      refine a_icmp_le X 20 d_Mo_weight_15 (by decide) (fun c15 => ?_) (fun c15 => ?_)
      ·
        exfalso
        rcases he with q | q
        · exact c9 q
        · exact i_n9 q c15
      ·
        refine a_iconst X (v := -1) d_Mo_weight_18 (by decide) ?_
        exact a_iret X d_Mo_weight_19 (Nat.le_refl _) (Nat.le_refl _) ⟨rfl, rfl⟩
set_option maxHeartbeats 4000000 in
set_option maxRecDepth 20000 in
theorem c_Mo_weight_x {E : ab_E} {l : Launch} {r : hR} {s : hS} {w c : hW} {b : hB} {d : hD} {k : hK} {t : hT} {ms mk : hA} {mp : hP} {mw : Nat → Int32} {mc : hC} {md : Nat × (Nat → Int32)} {mt : hF} {me : hE} {j z : Nat} {x : Int32} (hq : ms.1 ≤ 4) (hj : j < ms.1) (hz : z < 9) (hx : x < 0 ∨ nI 4 < x) : ab_Con E l y_Mo_weight b_Mo_weight 5 (some .int) 1 21 [.ref 204, .int (nI j), .int (nI z), .int x] (hc r s w c b d k t ++ hm ms mk mp mw mc md mt me) 0 0 (fun v h1 => v = some (.int (-2)) ∧ h1 = hc r s w c b d k t ++ hm ms mk mp mw mc md mt me) := by
  refine ab_con (own := "HiddenRowsModel") (ini := false) (by decide) (fun h => by cases h) rfl (Nat.le_of_ble_eq_true rfl) ?_
  intro G m X
  show ab_R E G m 5 0 0 0 [(0, .ref 204), (1, .int (nI j)), (2, .int (nI z)), (3, .int x)] [] (hc r s w c b d k t ++ hm ms mk mp mw mc md mt me)
  refine a_aload_n X 0 d_Mo_weight_0 rfl rfl ?_
  refine a_iload_n X 1 d_Mo_weight_1 rfl rfl ?_
  refine a_callV X (a := 203) (As := [.int _]) mq_203 rfl fb_Mo_isState lk_Mo_88 im_Mo_isState se_Mo_isState (c_Mo_isState_y hj (by omega)) rfl rfl (Nat.le_of_ble_eq_true rfl) (by decide) (by decide) (Nat.le_refl _) (Nat.le_refl _) d_Mo_weight_2 (fun v h1 hp => ?_)
  obtain ⟨rfl, rfl⟩ := hp
  refine a_if_eqN X 18 (by omega) d_Mo_weight_5 (by decide) (fun c5 => ?_) (fun c5 => ?_)
  ·
    exfalso
    omega
  ·
    refine a_iload_n X 2 d_Mo_weight_8 rfl rfl ?_
    refine a_if_ltN X 18 (by omega) d_Mo_weight_9 (by decide) ?_
    refine a_iload_n X 2 d_Mo_weight_12 rfl rfl ?_
    refine a_bipush X (v := nI 8) d_Mo_weight_13 (by decide) ?_
    refine a_icmp_leN X 20 (by omega) (by omega) d_Mo_weight_15 (by decide) (fun c15 => ?_) (fun c15 => ?_)
    ·
      refine a_iload_n X 3 d_Mo_weight_20 rfl rfl ?_
      refine a_callS X (As := [.int _]) fb_Mo_isWeight lk_Mo_92 sm_Mo_isWeight (c_Mo_isW_n hx) rfl rfl (Nat.le_of_ble_eq_true rfl) (by decide) (by decide) (Nat.le_refl _) (Nat.le_refl _) d_Mo_weight_21 (fun v h1 hp => ?_)
      obtain ⟨rfl, rfl⟩ := hp
      refine a_if_neN X 30 (by omega) d_Mo_weight_24 (by decide) (fun c24 => ?_) (fun c24 => ?_)
      ·
        exfalso
        omega
      ·
        refine a_bipush X (v := -2) d_Mo_weight_27 (by decide) ?_
        exact a_iret X d_Mo_weight_29 (Nat.le_refl _) (Nat.le_refl _) ⟨rfl, rfl⟩
    ·
      exfalso
      omega
set_option maxHeartbeats 4000000 in
set_option maxRecDepth 20000 in
theorem c_Mo_move_ok {E : ab_E} {l : Launch} {r : hR} {s : hS} {w c : hW} {b : hB} {d : hD} {k : hK} {t : hT} {ms mk : hA} {mp : hP} {mw : Nat → Int32} {mc : hC} {md : Nat × (Nat → Int32)} {mt : hF} {me : hE} {j z x : Nat} (hq : ms.1 ≤ 4) (hj : j < ms.1) (hz : z < ms.1) (hx : x ≤ 4) : ab_Con E l y_Mo_move b_Mo_move 5 (some .int) 1 21 [.ref 204, .int (nI j), .int (nI z), .int (nI x)] (hc r s w c b d k t ++ hm ms mk mp mw mc md mt me) 0 0 (fun v h1 => v = some (.int (nI (ms.2.2 (4 * j + z)))) ∧ h1 = hc r s w c b d k t ++ hm (ms.1, ms.2.1, va_up ms.2.2 (4 * j + z) x) mk mp mw (0, mc.2) (0, md.2) mt me) := by
  refine ab_con (own := "HiddenRowsModel") (ini := false) (by decide) (fun h => by cases h) rfl (Nat.le_of_ble_eq_true rfl) ?_
  intro G m X
  show ab_R E G m 5 0 0 0 [(0, .ref 204), (1, .int (nI j)), (2, .int (nI z)), (3, .int (nI x))] [] (hc r s w c b d k t ++ hm ms mk mp mw mc md mt me)
  refine a_aload_n X 0 d_Mo_move_0 rfl rfl ?_
  refine a_iload_n X 1 d_Mo_move_1 rfl rfl ?_
  refine a_callV X (a := 203) (As := [.int _]) mq_203 rfl fb_Mo_isState lk_Mo_88 im_Mo_isState se_Mo_isState (c_Mo_isState_y hj (by omega)) rfl rfl (Nat.le_of_ble_eq_true rfl) (by decide) (by decide) (Nat.le_refl _) (Nat.le_refl _) d_Mo_move_2 (fun v h1 hp => ?_)
  obtain ⟨rfl, rfl⟩ := hp
  refine a_if_eqN X 16 (by omega) d_Mo_move_5 (by decide) (fun c5 => ?_) (fun c5 => ?_)
  ·
    exfalso
    omega
  ·
    refine a_aload_n X 0 d_Mo_move_8 rfl rfl ?_
    refine a_iload_n X 2 d_Mo_move_9 rfl rfl ?_
    refine a_callV X (a := 203) (As := [.int _]) mq_203 rfl fb_Mo_isState lk_Mo_88 im_Mo_isState se_Mo_isState (c_Mo_isState_y hz (by omega)) rfl rfl (Nat.le_of_ble_eq_true rfl) (by decide) (by decide) (Nat.le_refl _) (Nat.le_refl _) d_Mo_move_10 (fun v h1 hp => ?_)
    obtain ⟨rfl, rfl⟩ := hp
    refine a_if_neN X 18 (by omega) d_Mo_move_13 (by decide) (fun c13 => ?_) (fun c13 => ?_)
    ·
      refine a_iload_n X 3 d_Mo_move_18 rfl rfl ?_
      refine a_callS X (As := [.int _]) fb_Mo_isWeight lk_Mo_92 sm_Mo_isWeight (c_Mo_isW_y hx) rfl rfl (Nat.le_of_ble_eq_true rfl) (by decide) (by decide) (Nat.le_refl _) (Nat.le_refl _) d_Mo_move_19 (fun v h1 hp => ?_)
      obtain ⟨rfl, rfl⟩ := hp
      refine a_if_neN X 28 (by omega) d_Mo_move_22 (by decide) (fun c22 => ?_) (fun c22 => ?_)
      ·
        refine a_aload_n X 0 d_Mo_move_28 rfl rfl ?_
        refine a_get X ff_Mo_13 d_Mo_move_29 mq_203 rfl ?_
        refine a_iconst X (v := nI 4) d_Mo_move_32 (by decide) ?_
        refine a_iload_n X 1 d_Mo_move_33 rfl rfl ?_
        refine a_imul X d_Mo_move_34 ?_
        refine ab_topi (pk_mul _ _) ?_
        refine a_iload_n X 2 d_Mo_move_35 rfl rfl ?_
        refine a_iadd X d_Mo_move_36 ?_
        refine ab_topi (nI_add _ _) ?_
        refine a_iald X d_Mo_move_37 mq_205 rfl (ab_ix_nI (by omega) (by decide)) ?_
        refine a_istore X d_Mo_move_38 (by decide) ?_
        refine a_aload_n X 0 d_Mo_move_40 rfl rfl ?_
        refine a_get X ff_Mo_13 d_Mo_move_41 mq_203 rfl ?_
        refine a_iconst X (v := nI 4) d_Mo_move_44 (by decide) ?_
        refine a_iload_n X 1 d_Mo_move_45 rfl rfl ?_
        refine a_imul X d_Mo_move_46 ?_
        refine ab_topi (pk_mul _ _) ?_
        refine a_iload_n X 2 d_Mo_move_47 rfl rfl ?_
        refine a_iadd X d_Mo_move_48 ?_
        refine ab_topi (nI_add _ _) ?_
        refine a_iload_n X 3 d_Mo_move_49 rfl rfl ?_
        refine a_iast X d_Mo_move_50 mq_205 rfl (ab_ix_nI (by omega) (by decide)) ?_
        refine ab_hp ma_moves ?_
        refine a_aload_n X 0 d_Mo_move_51 rfl rfl ?_
        refine a_callV X (a := 203) (As := []) mq_203 rfl fb_Mo_change lk_Mo_85 im_Mo_change se_Mo_change (c_Mo_chg) rfl rfl (Nat.le_of_ble_eq_true rfl) (by decide) (by decide) (Nat.le_refl _) (Nat.le_refl _) d_Mo_move_52 (fun v h1 hp => ?_)
        obtain ⟨rfl, rfl⟩ := hp
        refine a_iload X d_Mo_move_55 rfl ?_
        exact a_iret X d_Mo_move_57 (Nat.le_refl _) (Nat.le_refl _) ⟨rfl, rfl⟩
      ·
        exfalso
        omega
    ·
      exfalso
      omega
set_option maxHeartbeats 4000000 in
set_option maxRecDepth 20000 in
theorem c_Mo_move_s {E : ab_E} {l : Launch} {r : hR} {s : hS} {w c : hW} {b : hB} {d : hD} {k : hK} {t : hT} {ms mk : hA} {mp : hP} {mw : Nat → Int32} {mc : hC} {md : Nat × (Nat → Int32)} {mt : hF} {me : hE} {a e x : Int32} (ha : a < 0 ∨ nI ms.1 ≤ a) : ab_Con E l y_Mo_move b_Mo_move 5 (some .int) 1 21 [.ref 204, .int a, .int e, .int x] (hc r s w c b d k t ++ hm ms mk mp mw mc md mt me) 0 0 (fun v h1 => v = some (.int (-1)) ∧ h1 = hc r s w c b d k t ++ hm ms mk mp mw mc md mt me) := by
  refine ab_con (own := "HiddenRowsModel") (ini := false) (by decide) (fun h => by cases h) rfl (Nat.le_of_ble_eq_true rfl) ?_
  intro G m X
  show ab_R E G m 5 0 0 0 [(0, .ref 204), (1, .int a), (2, .int e), (3, .int x)] [] (hc r s w c b d k t ++ hm ms mk mp mw mc md mt me)
  refine a_aload_n X 0 d_Mo_move_0 rfl rfl ?_
  refine a_iload_n X 1 d_Mo_move_1 rfl rfl ?_
  refine a_callV X (a := 203) (As := [.int _]) mq_203 rfl fb_Mo_isState lk_Mo_88 im_Mo_isState se_Mo_isState (c_Mo_isState_n ha) rfl rfl (Nat.le_of_ble_eq_true rfl) (by decide) (by decide) (Nat.le_refl _) (Nat.le_refl _) d_Mo_move_2 (fun v h1 hp => ?_)
  obtain ⟨rfl, rfl⟩ := hp
  refine a_if_eqN X 16 (by omega) d_Mo_move_5 (by decide) (fun c5 => ?_) (fun c5 => ?_)
  ·
    refine a_iconst X (v := -1) d_Mo_move_16 (by decide) ?_
    exact a_iret X d_Mo_move_17 (Nat.le_refl _) (Nat.le_refl _) ⟨rfl, rfl⟩
  ·
    exfalso
    omega
set_option maxHeartbeats 4000000 in
set_option maxRecDepth 20000 in
theorem c_Mo_move_t {E : ab_E} {l : Launch} {r : hR} {s : hS} {w c : hW} {b : hB} {d : hD} {k : hK} {t : hT} {ms mk : hA} {mp : hP} {mw : Nat → Int32} {mc : hC} {md : Nat × (Nat → Int32)} {mt : hF} {me : hE} {j : Nat} {e x : Int32} (hq : ms.1 ≤ 4) (hj : j < ms.1) (he : e < 0 ∨ nI ms.1 ≤ e) : ab_Con E l y_Mo_move b_Mo_move 5 (some .int) 1 21 [.ref 204, .int (nI j), .int e, .int x] (hc r s w c b d k t ++ hm ms mk mp mw mc md mt me) 0 0 (fun v h1 => v = some (.int (-1)) ∧ h1 = hc r s w c b d k t ++ hm ms mk mp mw mc md mt me) := by
  refine ab_con (own := "HiddenRowsModel") (ini := false) (by decide) (fun h => by cases h) rfl (Nat.le_of_ble_eq_true rfl) ?_
  intro G m X
  show ab_R E G m 5 0 0 0 [(0, .ref 204), (1, .int (nI j)), (2, .int e), (3, .int x)] [] (hc r s w c b d k t ++ hm ms mk mp mw mc md mt me)
  refine a_aload_n X 0 d_Mo_move_0 rfl rfl ?_
  refine a_iload_n X 1 d_Mo_move_1 rfl rfl ?_
  refine a_callV X (a := 203) (As := [.int _]) mq_203 rfl fb_Mo_isState lk_Mo_88 im_Mo_isState se_Mo_isState (c_Mo_isState_y hj (by omega)) rfl rfl (Nat.le_of_ble_eq_true rfl) (by decide) (by decide) (Nat.le_refl _) (Nat.le_refl _) d_Mo_move_2 (fun v h1 hp => ?_)
  obtain ⟨rfl, rfl⟩ := hp
  refine a_if_eqN X 16 (by omega) d_Mo_move_5 (by decide) (fun c5 => ?_) (fun c5 => ?_)
  ·
    exfalso
    omega
  ·
    refine a_aload_n X 0 d_Mo_move_8 rfl rfl ?_
    refine a_iload_n X 2 d_Mo_move_9 rfl rfl ?_
    refine a_callV X (a := 203) (As := [.int _]) mq_203 rfl fb_Mo_isState lk_Mo_88 im_Mo_isState se_Mo_isState (c_Mo_isState_n he) rfl rfl (Nat.le_of_ble_eq_true rfl) (by decide) (by decide) (Nat.le_refl _) (Nat.le_refl _) d_Mo_move_10 (fun v h1 hp => ?_)
    obtain ⟨rfl, rfl⟩ := hp
    refine a_if_neN X 18 (by omega) d_Mo_move_13 (by decide) (fun c13 => ?_) (fun c13 => ?_)
    ·
      exfalso
      omega
    ·
      refine a_iconst X (v := -1) d_Mo_move_16 (by decide) ?_
      exact a_iret X d_Mo_move_17 (Nat.le_refl _) (Nat.le_refl _) ⟨rfl, rfl⟩
set_option maxHeartbeats 4000000 in
set_option maxRecDepth 20000 in
theorem c_Mo_move_x {E : ab_E} {l : Launch} {r : hR} {s : hS} {w c : hW} {b : hB} {d : hD} {k : hK} {t : hT} {ms mk : hA} {mp : hP} {mw : Nat → Int32} {mc : hC} {md : Nat × (Nat → Int32)} {mt : hF} {me : hE} {j z : Nat} {x : Int32} (hq : ms.1 ≤ 4) (hj : j < ms.1) (hz : z < ms.1) (hx : x < 0 ∨ nI 4 < x) : ab_Con E l y_Mo_move b_Mo_move 5 (some .int) 1 21 [.ref 204, .int (nI j), .int (nI z), .int x] (hc r s w c b d k t ++ hm ms mk mp mw mc md mt me) 0 0 (fun v h1 => v = some (.int (-2)) ∧ h1 = hc r s w c b d k t ++ hm ms mk mp mw mc md mt me) := by
  refine ab_con (own := "HiddenRowsModel") (ini := false) (by decide) (fun h => by cases h) rfl (Nat.le_of_ble_eq_true rfl) ?_
  intro G m X
  show ab_R E G m 5 0 0 0 [(0, .ref 204), (1, .int (nI j)), (2, .int (nI z)), (3, .int x)] [] (hc r s w c b d k t ++ hm ms mk mp mw mc md mt me)
  refine a_aload_n X 0 d_Mo_move_0 rfl rfl ?_
  refine a_iload_n X 1 d_Mo_move_1 rfl rfl ?_
  refine a_callV X (a := 203) (As := [.int _]) mq_203 rfl fb_Mo_isState lk_Mo_88 im_Mo_isState se_Mo_isState (c_Mo_isState_y hj (by omega)) rfl rfl (Nat.le_of_ble_eq_true rfl) (by decide) (by decide) (Nat.le_refl _) (Nat.le_refl _) d_Mo_move_2 (fun v h1 hp => ?_)
  obtain ⟨rfl, rfl⟩ := hp
  refine a_if_eqN X 16 (by omega) d_Mo_move_5 (by decide) (fun c5 => ?_) (fun c5 => ?_)
  ·
    exfalso
    omega
  ·
    refine a_aload_n X 0 d_Mo_move_8 rfl rfl ?_
    refine a_iload_n X 2 d_Mo_move_9 rfl rfl ?_
    refine a_callV X (a := 203) (As := [.int _]) mq_203 rfl fb_Mo_isState lk_Mo_88 im_Mo_isState se_Mo_isState (c_Mo_isState_y hz (by omega)) rfl rfl (Nat.le_of_ble_eq_true rfl) (by decide) (by decide) (Nat.le_refl _) (Nat.le_refl _) d_Mo_move_10 (fun v h1 hp => ?_)
    obtain ⟨rfl, rfl⟩ := hp
    refine a_if_neN X 18 (by omega) d_Mo_move_13 (by decide) (fun c13 => ?_) (fun c13 => ?_)
    ·
      refine a_iload_n X 3 d_Mo_move_18 rfl rfl ?_
      refine a_callS X (As := [.int _]) fb_Mo_isWeight lk_Mo_92 sm_Mo_isWeight (c_Mo_isW_n hx) rfl rfl (Nat.le_of_ble_eq_true rfl) (by decide) (by decide) (Nat.le_refl _) (Nat.le_refl _) d_Mo_move_19 (fun v h1 hp => ?_)
      obtain ⟨rfl, rfl⟩ := hp
      refine a_if_neN X 28 (by omega) d_Mo_move_22 (by decide) (fun c22 => ?_) (fun c22 => ?_)
      ·
        exfalso
        omega
      ·
        refine a_bipush X (v := -2) d_Mo_move_25 (by decide) ?_
        exact a_iret X d_Mo_move_27 (Nat.le_refl _) (Nat.le_refl _) ⟨rfl, rfl⟩
    ·
      exfalso
      omega
set_option maxHeartbeats 4000000 in
set_option maxRecDepth 20000 in
theorem c_Mo_kind_ok {E : ab_E} {l : Launch} {r : hR} {s : hS} {w c : hW} {b : hB} {d : hD} {k : hK} {t : hT} {ms mk : hA} {mp : hP} {mw : Nat → Int32} {mc : hC} {md : Nat × (Nat → Int32)} {mt : hF} {me : hE} (hq : mk.1 < 4) : ab_Con E l y_Mo_kind b_Mo_kind 1 (some .int) 0 0 [.ref 204] (hc r s w c b d k t ++ hm ms mk mp mw mc md mt me) 0 0 (fun v h1 => v = some (.int (nI mk.1)) ∧ h1 = hc r s w c b d k t ++ hm ms (mk.1 + 1, mk.2) mp mw mc md mt me) := by
  refine ab_con (own := "HiddenRowsModel") (ini := false) (by decide) (fun h => by cases h) rfl (Nat.le_of_ble_eq_true rfl) ?_
  intro G m X
  show ab_R E G m 1 0 0 0 [(0, .ref 204)] [] (hc r s w c b d k t ++ hm ms mk mp mw mc md mt me)
  refine a_aload_n X 0 d_Mo_kind_0 rfl rfl ?_
  refine a_get X ff_Mo_79 d_Mo_kind_1 mq_203 rfl ?_
  refine a_iconst X (v := nI 4) d_Mo_kind_4 (by decide) ?_
  refine a_icmp_neN X 11 (by omega) (by omega) d_Mo_kind_5 (by decide) (fun c5 => ?_) (fun c5 => ?_)
  ·
    refine a_aload_n X 0 d_Mo_kind_11 rfl rfl ?_
    refine a_dup X d_Mo_kind_12 rfl ?_
    refine a_get X ff_Mo_79 d_Mo_kind_13 mq_203 rfl ?_
    refine a_iconst X (v := nI 1) d_Mo_kind_16 (by decide) ?_
    refine a_iadd X d_Mo_kind_17 ?_
    refine ab_topi (nI_add _ _) ?_
    refine a_put X ff_Mo_79 d_Mo_kind_18 mq_203 (Nat.le_of_ble_eq_true rfl) rfl rfl ?_
    refine ab_hp mo_set ?_
    refine a_aload_n X 0 d_Mo_kind_21 rfl rfl ?_
    refine a_get X ff_Mo_79 d_Mo_kind_22 mq_203 rfl ?_
    refine a_iconst X (v := nI 1) d_Mo_kind_25 (by decide) ?_
    refine a_isub X d_Mo_kind_26 ?_
    refine ab_topi (pk_sub (a := mk.1 + 1) (b := 1) (by omega)) ?_
    exact a_iret X d_Mo_kind_27 (Nat.le_refl _) (Nat.le_refl _) ⟨by rw [Nat.add_sub_cancel], rfl⟩
  ·
    exfalso
    omega
set_option maxHeartbeats 4000000 in
set_option maxRecDepth 20000 in
theorem c_Mo_kind_no {E : ab_E} {l : Launch} {r : hR} {s : hS} {w c : hW} {b : hB} {d : hD} {k : hK} {t : hT} {ms mk : hA} {mp : hP} {mw : Nat → Int32} {mc : hC} {md : Nat × (Nat → Int32)} {mt : hF} {me : hE} (hq : mk.1 = 4) : ab_Con E l y_Mo_kind b_Mo_kind 1 (some .int) 0 0 [.ref 204] (hc r s w c b d k t ++ hm ms mk mp mw mc md mt me) 0 0 (fun v h1 => v = some (.int (-4)) ∧ h1 = hc r s w c b d k t ++ hm ms mk mp mw mc md mt me) := by
  refine ab_con (own := "HiddenRowsModel") (ini := false) (by decide) (fun h => by cases h) rfl (Nat.le_of_ble_eq_true rfl) ?_
  intro G m X
  show ab_R E G m 1 0 0 0 [(0, .ref 204)] [] (hc r s w c b d k t ++ hm ms mk mp mw mc md mt me)
  refine a_aload_n X 0 d_Mo_kind_0 rfl rfl ?_
  refine a_get X ff_Mo_79 d_Mo_kind_1 mq_203 rfl ?_
  refine a_iconst X (v := nI 4) d_Mo_kind_4 (by decide) ?_
  refine a_icmp_neN X 11 (by omega) (by omega) d_Mo_kind_5 (by decide) (fun c5 => ?_) (fun c5 => ?_)
  ·
    exfalso
    omega
  ·
    refine a_bipush X (v := -4) d_Mo_kind_8 (by decide) ?_
    exact a_iret X d_Mo_kind_10 (Nat.le_refl _) (Nat.le_refl _) ⟨rfl, rfl⟩
set_option maxHeartbeats 4000000 in
set_option maxRecDepth 20000 in
theorem c_Mo_rule_ok {E : ab_E} {l : Launch} {r : hR} {s : hS} {w c : hW} {b : hB} {d : hD} {k : hK} {t : hT} {ms mk : hA} {mp : hP} {mw : Nat → Int32} {mc : hC} {md : Nat × (Nat → Int32)} {mt : hF} {me : hE} {a e f x : Nat} (hq : mk.1 ≤ 4) (ha : a < mk.1) (hb : e < mk.1) (hcc : f < mk.1) (hx : x ≤ 4) : ab_Con E l y_Mo_rule b_Mo_rule 6 (some .int) 1 21 [.ref 204, .int (nI a), .int (nI e), .int (nI f), .int (nI x)] (hc r s w c b d k t ++ hm ms mk mp mw mc md mt me) 0 0 (fun v h1 => v = some (.int (nI (mk.2.1 (16 * a + 4 * e + f)))) ∧ h1 = hc r s w c b d k t ++ hm ms (mk.1, va_up mk.2.1 (16 * a + 4 * e + f) x, mk.2.2) mp mw mc md mt me) := by
  refine ab_con (own := "HiddenRowsModel") (ini := false) (by decide) (fun h => by cases h) rfl (Nat.le_of_ble_eq_true rfl) ?_
  intro G m X
  show ab_R E G m 6 0 0 0 [(0, .ref 204), (1, .int (nI a)), (2, .int (nI e)), (3, .int (nI f)), (4, .int (nI x))] [] (hc r s w c b d k t ++ hm ms mk mp mw mc md mt me)
  refine a_aload_n X 0 d_Mo_rule_0 rfl rfl ?_
  refine a_iload_n X 1 d_Mo_rule_1 rfl rfl ?_
  refine a_callV X (a := 203) (As := [.int _]) mq_203 rfl fb_Mo_isKind lk_Mo_95 im_Mo_isKind se_Mo_isKind (c_Mo_isKind_y ha (by omega)) rfl rfl (Nat.le_of_ble_eq_true rfl) (by decide) (by decide) (Nat.le_refl _) (Nat.le_refl _) d_Mo_rule_2 (fun v h1 hp => ?_)
  obtain ⟨rfl, rfl⟩ := hp
  refine a_if_eqN X 24 (by omega) d_Mo_rule_5 (by decide) (fun c5 => ?_) (fun c5 => ?_)
  ·
    exfalso
    omega
  ·
    refine a_aload_n X 0 d_Mo_rule_8 rfl rfl ?_
    refine a_iload_n X 2 d_Mo_rule_9 rfl rfl ?_
    refine a_callV X (a := 203) (As := [.int _]) mq_203 rfl fb_Mo_isKind lk_Mo_95 im_Mo_isKind se_Mo_isKind (c_Mo_isKind_y hb (by omega)) rfl rfl (Nat.le_of_ble_eq_true rfl) (by decide) (by decide) (Nat.le_refl _) (Nat.le_refl _) d_Mo_rule_10 (fun v h1 hp => ?_)
    obtain ⟨rfl, rfl⟩ := hp
    refine a_if_eqN X 24 (by omega) d_Mo_rule_13 (by decide) (fun c13 => ?_) (fun c13 => ?_)
    ·
      exfalso
      omega
    ·
      refine a_aload_n X 0 d_Mo_rule_16 rfl rfl ?_
      refine a_iload_n X 3 d_Mo_rule_17 rfl rfl ?_
      refine a_callV X (a := 203) (As := [.int _]) mq_203 rfl fb_Mo_isKind lk_Mo_95 im_Mo_isKind se_Mo_isKind (c_Mo_isKind_y hcc (by omega)) rfl rfl (Nat.le_of_ble_eq_true rfl) (by decide) (by decide) (Nat.le_refl _) (Nat.le_refl _) d_Mo_rule_18 (fun v h1 hp => ?_)
      obtain ⟨rfl, rfl⟩ := hp
      refine a_if_neN X 26 (by omega) d_Mo_rule_21 (by decide) (fun c21 => ?_) (fun c21 => ?_)
      ·
        refine a_iload X d_Mo_rule_26 rfl ?_
        refine a_callS X (As := [.int _]) fb_Mo_isWeight lk_Mo_92 sm_Mo_isWeight (c_Mo_isW_y hx) rfl rfl (Nat.le_of_ble_eq_true rfl) (by decide) (by decide) (Nat.le_refl _) (Nat.le_refl _) d_Mo_rule_28 (fun v h1 hp => ?_)
        obtain ⟨rfl, rfl⟩ := hp
        refine a_if_neN X 37 (by omega) d_Mo_rule_31 (by decide) (fun c31 => ?_) (fun c31 => ?_)
        ·
          refine a_aload_n X 0 d_Mo_rule_37 rfl rfl ?_
          refine a_get X ff_Mo_16 d_Mo_rule_38 mq_203 rfl ?_
          refine a_bipush X (v := nI 16) d_Mo_rule_41 (by decide) ?_
          refine a_iload_n X 1 d_Mo_rule_43 rfl rfl ?_
          refine a_imul X d_Mo_rule_44 ?_
          refine ab_topi (pk_mul _ _) ?_
          refine a_iconst X (v := nI 4) d_Mo_rule_45 (by decide) ?_
          refine a_iload_n X 2 d_Mo_rule_46 rfl rfl ?_
          refine a_imul X d_Mo_rule_47 ?_
          refine ab_topi (pk_mul _ _) ?_
          refine a_iadd X d_Mo_rule_48 ?_
          refine ab_topi (nI_add _ _) ?_
          refine a_iload_n X 3 d_Mo_rule_49 rfl rfl ?_
          refine a_iadd X d_Mo_rule_50 ?_
          refine ab_topi (nI_add _ _) ?_
          refine a_iald X d_Mo_rule_51 mq_206 rfl (ab_ix_nI (by omega) (by decide)) ?_
          refine a_istore X d_Mo_rule_52 (by decide) ?_
          refine a_aload_n X 0 d_Mo_rule_54 rfl rfl ?_
          refine a_get X ff_Mo_16 d_Mo_rule_55 mq_203 rfl ?_
          refine a_bipush X (v := nI 16) d_Mo_rule_58 (by decide) ?_
          refine a_iload_n X 1 d_Mo_rule_60 rfl rfl ?_
          refine a_imul X d_Mo_rule_61 ?_
          refine ab_topi (pk_mul _ _) ?_
          refine a_iconst X (v := nI 4) d_Mo_rule_62 (by decide) ?_
          refine a_iload_n X 2 d_Mo_rule_63 rfl rfl ?_
          refine a_imul X d_Mo_rule_64 ?_
          refine ab_topi (pk_mul _ _) ?_
          refine a_iadd X d_Mo_rule_65 ?_
          refine ab_topi (nI_add _ _) ?_
          refine a_iload_n X 3 d_Mo_rule_66 rfl rfl ?_
          refine a_iadd X d_Mo_rule_67 ?_
          refine ab_topi (nI_add _ _) ?_
          refine a_iload X d_Mo_rule_68 rfl ?_
          refine a_iast X d_Mo_rule_70 mq_206 rfl (ab_ix_nI (by omega) (by decide)) ?_
          refine ab_hp ma_rules ?_
          refine a_iload X d_Mo_rule_71 rfl ?_
          exact a_iret X d_Mo_rule_73 (Nat.le_refl _) (Nat.le_refl _) ⟨rfl, rfl⟩
        ·
          exfalso
          omega
      ·
        exfalso
        omega
set_option maxHeartbeats 4000000 in
set_option maxRecDepth 20000 in
theorem c_Mo_rule_a {E : ab_E} {l : Launch} {r : hR} {s : hS} {w c : hW} {b : hB} {d : hD} {k : hK} {t : hT} {ms mk : hA} {mp : hP} {mw : Nat → Int32} {mc : hC} {md : Nat × (Nat → Int32)} {mt : hF} {me : hE} {y1 y2 y3 y4 : Int32} (ha : y1 < 0 ∨ nI mk.1 ≤ y1) : ab_Con E l y_Mo_rule b_Mo_rule 6 (some .int) 1 21 [.ref 204, .int y1, .int y2, .int y3, .int y4] (hc r s w c b d k t ++ hm ms mk mp mw mc md mt me) 0 0 (fun v h1 => v = some (.int (-1)) ∧ h1 = hc r s w c b d k t ++ hm ms mk mp mw mc md mt me) := by
  refine ab_con (own := "HiddenRowsModel") (ini := false) (by decide) (fun h => by cases h) rfl (Nat.le_of_ble_eq_true rfl) ?_
  intro G m X
  show ab_R E G m 6 0 0 0 [(0, .ref 204), (1, .int y1), (2, .int y2), (3, .int y3), (4, .int y4)] [] (hc r s w c b d k t ++ hm ms mk mp mw mc md mt me)
  refine a_aload_n X 0 d_Mo_rule_0 rfl rfl ?_
  refine a_iload_n X 1 d_Mo_rule_1 rfl rfl ?_
  refine a_callV X (a := 203) (As := [.int _]) mq_203 rfl fb_Mo_isKind lk_Mo_95 im_Mo_isKind se_Mo_isKind (c_Mo_isKind_n ha) rfl rfl (Nat.le_of_ble_eq_true rfl) (by decide) (by decide) (Nat.le_refl _) (Nat.le_refl _) d_Mo_rule_2 (fun v h1 hp => ?_)
  obtain ⟨rfl, rfl⟩ := hp
  refine a_if_eqN X 24 (by omega) d_Mo_rule_5 (by decide) (fun c5 => ?_) (fun c5 => ?_)
  ·
    refine a_iconst X (v := -1) d_Mo_rule_24 (by decide) ?_
    exact a_iret X d_Mo_rule_25 (Nat.le_refl _) (Nat.le_refl _) ⟨rfl, rfl⟩
  ·
    exfalso
    omega
set_option maxHeartbeats 4000000 in
set_option maxRecDepth 20000 in
theorem c_Mo_rule_b {E : ab_E} {l : Launch} {r : hR} {s : hS} {w c : hW} {b : hB} {d : hD} {k : hK} {t : hT} {ms mk : hA} {mp : hP} {mw : Nat → Int32} {mc : hC} {md : Nat × (Nat → Int32)} {mt : hF} {me : hE} {a : Nat} {y2 y3 y4 : Int32} (hq : mk.1 ≤ 4) (ha : a < mk.1) (hb : y2 < 0 ∨ nI mk.1 ≤ y2) : ab_Con E l y_Mo_rule b_Mo_rule 6 (some .int) 1 21 [.ref 204, .int (nI a), .int y2, .int y3, .int y4] (hc r s w c b d k t ++ hm ms mk mp mw mc md mt me) 0 0 (fun v h1 => v = some (.int (-1)) ∧ h1 = hc r s w c b d k t ++ hm ms mk mp mw mc md mt me) := by
  refine ab_con (own := "HiddenRowsModel") (ini := false) (by decide) (fun h => by cases h) rfl (Nat.le_of_ble_eq_true rfl) ?_
  intro G m X
  show ab_R E G m 6 0 0 0 [(0, .ref 204), (1, .int (nI a)), (2, .int y2), (3, .int y3), (4, .int y4)] [] (hc r s w c b d k t ++ hm ms mk mp mw mc md mt me)
  refine a_aload_n X 0 d_Mo_rule_0 rfl rfl ?_
  refine a_iload_n X 1 d_Mo_rule_1 rfl rfl ?_
  refine a_callV X (a := 203) (As := [.int _]) mq_203 rfl fb_Mo_isKind lk_Mo_95 im_Mo_isKind se_Mo_isKind (c_Mo_isKind_y ha (by omega)) rfl rfl (Nat.le_of_ble_eq_true rfl) (by decide) (by decide) (Nat.le_refl _) (Nat.le_refl _) d_Mo_rule_2 (fun v h1 hp => ?_)
  obtain ⟨rfl, rfl⟩ := hp
  refine a_if_eqN X 24 (by omega) d_Mo_rule_5 (by decide) (fun c5 => ?_) (fun c5 => ?_)
  ·
    exfalso
    omega
  ·
    refine a_aload_n X 0 d_Mo_rule_8 rfl rfl ?_
    refine a_iload_n X 2 d_Mo_rule_9 rfl rfl ?_
    refine a_callV X (a := 203) (As := [.int _]) mq_203 rfl fb_Mo_isKind lk_Mo_95 im_Mo_isKind se_Mo_isKind (c_Mo_isKind_n hb) rfl rfl (Nat.le_of_ble_eq_true rfl) (by decide) (by decide) (Nat.le_refl _) (Nat.le_refl _) d_Mo_rule_10 (fun v h1 hp => ?_)
    obtain ⟨rfl, rfl⟩ := hp
    refine a_if_eqN X 24 (by omega) d_Mo_rule_13 (by decide) (fun c13 => ?_) (fun c13 => ?_)
    ·
      refine a_iconst X (v := -1) d_Mo_rule_24 (by decide) ?_
      exact a_iret X d_Mo_rule_25 (Nat.le_refl _) (Nat.le_refl _) ⟨rfl, rfl⟩
    ·
      exfalso
      omega
set_option maxHeartbeats 4000000 in
set_option maxRecDepth 20000 in
theorem c_Mo_rule_c {E : ab_E} {l : Launch} {r : hR} {s : hS} {w c : hW} {b : hB} {d : hD} {k : hK} {t : hT} {ms mk : hA} {mp : hP} {mw : Nat → Int32} {mc : hC} {md : Nat × (Nat → Int32)} {mt : hF} {me : hE} {a e : Nat} {y3 y4 : Int32} (hq : mk.1 ≤ 4) (ha : a < mk.1) (hb : e < mk.1) (hcc : y3 < 0 ∨ nI mk.1 ≤ y3) : ab_Con E l y_Mo_rule b_Mo_rule 6 (some .int) 1 21 [.ref 204, .int (nI a), .int (nI e), .int y3, .int y4] (hc r s w c b d k t ++ hm ms mk mp mw mc md mt me) 0 0 (fun v h1 => v = some (.int (-1)) ∧ h1 = hc r s w c b d k t ++ hm ms mk mp mw mc md mt me) := by
  refine ab_con (own := "HiddenRowsModel") (ini := false) (by decide) (fun h => by cases h) rfl (Nat.le_of_ble_eq_true rfl) ?_
  intro G m X
  show ab_R E G m 6 0 0 0 [(0, .ref 204), (1, .int (nI a)), (2, .int (nI e)), (3, .int y3), (4, .int y4)] [] (hc r s w c b d k t ++ hm ms mk mp mw mc md mt me)
  refine a_aload_n X 0 d_Mo_rule_0 rfl rfl ?_
  refine a_iload_n X 1 d_Mo_rule_1 rfl rfl ?_
  refine a_callV X (a := 203) (As := [.int _]) mq_203 rfl fb_Mo_isKind lk_Mo_95 im_Mo_isKind se_Mo_isKind (c_Mo_isKind_y ha (by omega)) rfl rfl (Nat.le_of_ble_eq_true rfl) (by decide) (by decide) (Nat.le_refl _) (Nat.le_refl _) d_Mo_rule_2 (fun v h1 hp => ?_)
  obtain ⟨rfl, rfl⟩ := hp
  refine a_if_eqN X 24 (by omega) d_Mo_rule_5 (by decide) (fun c5 => ?_) (fun c5 => ?_)
  ·
    exfalso
    omega
  ·
    refine a_aload_n X 0 d_Mo_rule_8 rfl rfl ?_
    refine a_iload_n X 2 d_Mo_rule_9 rfl rfl ?_
    refine a_callV X (a := 203) (As := [.int _]) mq_203 rfl fb_Mo_isKind lk_Mo_95 im_Mo_isKind se_Mo_isKind (c_Mo_isKind_y hb (by omega)) rfl rfl (Nat.le_of_ble_eq_true rfl) (by decide) (by decide) (Nat.le_refl _) (Nat.le_refl _) d_Mo_rule_10 (fun v h1 hp => ?_)
    obtain ⟨rfl, rfl⟩ := hp
    refine a_if_eqN X 24 (by omega) d_Mo_rule_13 (by decide) (fun c13 => ?_) (fun c13 => ?_)
    ·
      exfalso
      omega
    ·
      refine a_aload_n X 0 d_Mo_rule_16 rfl rfl ?_
      refine a_iload_n X 3 d_Mo_rule_17 rfl rfl ?_
      refine a_callV X (a := 203) (As := [.int _]) mq_203 rfl fb_Mo_isKind lk_Mo_95 im_Mo_isKind se_Mo_isKind (c_Mo_isKind_n hcc) rfl rfl (Nat.le_of_ble_eq_true rfl) (by decide) (by decide) (Nat.le_refl _) (Nat.le_refl _) d_Mo_rule_18 (fun v h1 hp => ?_)
      obtain ⟨rfl, rfl⟩ := hp
      refine a_if_neN X 26 (by omega) d_Mo_rule_21 (by decide) (fun c21 => ?_) (fun c21 => ?_)
      ·
        exfalso
        omega
      ·
        refine a_iconst X (v := -1) d_Mo_rule_24 (by decide) ?_
        exact a_iret X d_Mo_rule_25 (Nat.le_refl _) (Nat.le_refl _) ⟨rfl, rfl⟩
set_option maxHeartbeats 4000000 in
set_option maxRecDepth 20000 in
theorem c_Mo_rule_x {E : ab_E} {l : Launch} {r : hR} {s : hS} {w c : hW} {b : hB} {d : hD} {k : hK} {t : hT} {ms mk : hA} {mp : hP} {mw : Nat → Int32} {mc : hC} {md : Nat × (Nat → Int32)} {mt : hF} {me : hE} {a e f : Nat} {x : Int32} (hq : mk.1 ≤ 4) (ha : a < mk.1) (hb : e < mk.1) (hcc : f < mk.1) (hx : x < 0 ∨ nI 4 < x) : ab_Con E l y_Mo_rule b_Mo_rule 6 (some .int) 1 21 [.ref 204, .int (nI a), .int (nI e), .int (nI f), .int x] (hc r s w c b d k t ++ hm ms mk mp mw mc md mt me) 0 0 (fun v h1 => v = some (.int (-2)) ∧ h1 = hc r s w c b d k t ++ hm ms mk mp mw mc md mt me) := by
  refine ab_con (own := "HiddenRowsModel") (ini := false) (by decide) (fun h => by cases h) rfl (Nat.le_of_ble_eq_true rfl) ?_
  intro G m X
  show ab_R E G m 6 0 0 0 [(0, .ref 204), (1, .int (nI a)), (2, .int (nI e)), (3, .int (nI f)), (4, .int x)] [] (hc r s w c b d k t ++ hm ms mk mp mw mc md mt me)
  refine a_aload_n X 0 d_Mo_rule_0 rfl rfl ?_
  refine a_iload_n X 1 d_Mo_rule_1 rfl rfl ?_
  refine a_callV X (a := 203) (As := [.int _]) mq_203 rfl fb_Mo_isKind lk_Mo_95 im_Mo_isKind se_Mo_isKind (c_Mo_isKind_y ha (by omega)) rfl rfl (Nat.le_of_ble_eq_true rfl) (by decide) (by decide) (Nat.le_refl _) (Nat.le_refl _) d_Mo_rule_2 (fun v h1 hp => ?_)
  obtain ⟨rfl, rfl⟩ := hp
  refine a_if_eqN X 24 (by omega) d_Mo_rule_5 (by decide) (fun c5 => ?_) (fun c5 => ?_)
  ·
    exfalso
    omega
  ·
    refine a_aload_n X 0 d_Mo_rule_8 rfl rfl ?_
    refine a_iload_n X 2 d_Mo_rule_9 rfl rfl ?_
    refine a_callV X (a := 203) (As := [.int _]) mq_203 rfl fb_Mo_isKind lk_Mo_95 im_Mo_isKind se_Mo_isKind (c_Mo_isKind_y hb (by omega)) rfl rfl (Nat.le_of_ble_eq_true rfl) (by decide) (by decide) (Nat.le_refl _) (Nat.le_refl _) d_Mo_rule_10 (fun v h1 hp => ?_)
    obtain ⟨rfl, rfl⟩ := hp
    refine a_if_eqN X 24 (by omega) d_Mo_rule_13 (by decide) (fun c13 => ?_) (fun c13 => ?_)
    ·
      exfalso
      omega
    ·
      refine a_aload_n X 0 d_Mo_rule_16 rfl rfl ?_
      refine a_iload_n X 3 d_Mo_rule_17 rfl rfl ?_
      refine a_callV X (a := 203) (As := [.int _]) mq_203 rfl fb_Mo_isKind lk_Mo_95 im_Mo_isKind se_Mo_isKind (c_Mo_isKind_y hcc (by omega)) rfl rfl (Nat.le_of_ble_eq_true rfl) (by decide) (by decide) (Nat.le_refl _) (Nat.le_refl _) d_Mo_rule_18 (fun v h1 hp => ?_)
      obtain ⟨rfl, rfl⟩ := hp
      refine a_if_neN X 26 (by omega) d_Mo_rule_21 (by decide) (fun c21 => ?_) (fun c21 => ?_)
      ·
        refine a_iload X d_Mo_rule_26 rfl ?_
        refine a_callS X (As := [.int _]) fb_Mo_isWeight lk_Mo_92 sm_Mo_isWeight (c_Mo_isW_n hx) rfl rfl (Nat.le_of_ble_eq_true rfl) (by decide) (by decide) (Nat.le_refl _) (Nat.le_refl _) d_Mo_rule_28 (fun v h1 hp => ?_)
        obtain ⟨rfl, rfl⟩ := hp
        refine a_if_neN X 37 (by omega) d_Mo_rule_31 (by decide) (fun c31 => ?_) (fun c31 => ?_)
        ·
          exfalso
          omega
        ·
          refine a_bipush X (v := -2) d_Mo_rule_34 (by decide) ?_
          exact a_iret X d_Mo_rule_36 (Nat.le_refl _) (Nat.le_refl _) ⟨rfl, rfl⟩
      ·
        exfalso
        omega
set_option maxHeartbeats 4000000 in
set_option maxRecDepth 20000 in
theorem c_Mo_leaf_ok {E : ab_E} {l : Launch} {r : hR} {s : hS} {w c : hW} {b : hB} {d : hD} {k : hK} {t : hT} {ms mk : hA} {mp : hP} {mw : Nat → Int32} {mc : hC} {md : Nat × (Nat → Int32)} {mt : hF} {me : hE} {a z x : Nat} (hq : mk.1 ≤ 4) (ha : a < mk.1) (hz : z < 4) (hx : x ≤ 4) : ab_Con E l y_Mo_leaf b_Mo_leaf 5 (some .int) 1 21 [.ref 204, .int (nI a), .int (nI z), .int (nI x)] (hc r s w c b d k t ++ hm ms mk mp mw mc md mt me) 0 0 (fun v h1 => v = some (.int (nI (mk.2.2 (4 * a + z)))) ∧ h1 = hc r s w c b d k t ++ hm ms (mk.1, mk.2.1, va_up mk.2.2 (4 * a + z) x) mp mw mc md mt me) := by
  refine ab_con (own := "HiddenRowsModel") (ini := false) (by decide) (fun h => by cases h) rfl (Nat.le_of_ble_eq_true rfl) ?_
  intro G m X
  show ab_R E G m 5 0 0 0 [(0, .ref 204), (1, .int (nI a)), (2, .int (nI z)), (3, .int (nI x))] [] (hc r s w c b d k t ++ hm ms mk mp mw mc md mt me)
  refine a_aload_n X 0 d_Mo_leaf_0 rfl rfl ?_
  refine a_iload_n X 1 d_Mo_leaf_1 rfl rfl ?_
  refine a_callV X (a := 203) (As := [.int _]) mq_203 rfl fb_Mo_isKind lk_Mo_95 im_Mo_isKind se_Mo_isKind (c_Mo_isKind_y ha (by omega)) rfl rfl (Nat.le_of_ble_eq_true rfl) (by decide) (by decide) (Nat.le_refl _) (Nat.le_refl _) d_Mo_leaf_2 (fun v h1 hp => ?_)
  obtain ⟨rfl, rfl⟩ := hp
  refine a_if_eqN X 17 (by omega) d_Mo_leaf_5 (by decide) (fun c5 => ?_) (fun c5 => ?_)
  ·
    exfalso
    omega
  ·
    refine a_iload_n X 2 d_Mo_leaf_8 rfl rfl ?_
    refine a_if_ltN X 17 (by omega) d_Mo_leaf_9 (by decide) ?_
    refine a_iload_n X 2 d_Mo_leaf_12 rfl rfl ?_
    refine a_iconst X (v := nI 3) d_Mo_leaf_13 (by decide) ?_
    refine a_icmp_leN X 19 (by omega) (by omega) d_Mo_leaf_14 (by decide) (fun c14 => ?_) (fun c14 => ?_)
    ·
      refine a_iload_n X 3 d_Mo_leaf_19 rfl rfl ?_
      refine a_callS X (As := [.int _]) fb_Mo_isWeight lk_Mo_92 sm_Mo_isWeight (c_Mo_isW_y hx) rfl rfl (Nat.le_of_ble_eq_true rfl) (by decide) (by decide) (Nat.le_refl _) (Nat.le_refl _) d_Mo_leaf_20 (fun v h1 hp => ?_)
      obtain ⟨rfl, rfl⟩ := hp
      refine a_if_neN X 29 (by omega) d_Mo_leaf_23 (by decide) (fun c23 => ?_) (fun c23 => ?_)
      ·
        refine a_aload_n X 0 d_Mo_leaf_29 rfl rfl ?_
        refine a_get X ff_Mo_19 d_Mo_leaf_30 mq_203 rfl ?_
        refine a_iconst X (v := nI 4) d_Mo_leaf_33 (by decide) ?_
        refine a_iload_n X 1 d_Mo_leaf_34 rfl rfl ?_
        refine a_imul X d_Mo_leaf_35 ?_
        refine ab_topi (pk_mul _ _) ?_
        refine a_iload_n X 2 d_Mo_leaf_36 rfl rfl ?_
        refine a_iadd X d_Mo_leaf_37 ?_
        refine ab_topi (nI_add _ _) ?_
        refine a_iald X d_Mo_leaf_38 mq_207 rfl (ab_ix_nI (by omega) (by decide)) ?_
        refine a_istore X d_Mo_leaf_39 (by decide) ?_
        refine a_aload_n X 0 d_Mo_leaf_41 rfl rfl ?_
        refine a_get X ff_Mo_19 d_Mo_leaf_42 mq_203 rfl ?_
        refine a_iconst X (v := nI 4) d_Mo_leaf_45 (by decide) ?_
        refine a_iload_n X 1 d_Mo_leaf_46 rfl rfl ?_
        refine a_imul X d_Mo_leaf_47 ?_
        refine ab_topi (pk_mul _ _) ?_
        refine a_iload_n X 2 d_Mo_leaf_48 rfl rfl ?_
        refine a_iadd X d_Mo_leaf_49 ?_
        refine ab_topi (nI_add _ _) ?_
        refine a_iload_n X 3 d_Mo_leaf_50 rfl rfl ?_
        refine a_iast X d_Mo_leaf_51 mq_207 rfl (ab_ix_nI (by omega) (by decide)) ?_
        refine ab_hp ma_leaves ?_
        refine a_iload X d_Mo_leaf_52 rfl ?_
        exact a_iret X d_Mo_leaf_54 (Nat.le_refl _) (Nat.le_refl _) ⟨rfl, rfl⟩
      ·
        exfalso
        omega
    ·
      exfalso
      omega
set_option maxHeartbeats 4000000 in
set_option maxRecDepth 20000 in
theorem c_Mo_leaf_a {E : ab_E} {l : Launch} {r : hR} {s : hS} {w c : hW} {b : hB} {d : hD} {k : hK} {t : hT} {ms mk : hA} {mp : hP} {mw : Nat → Int32} {mc : hC} {md : Nat × (Nat → Int32)} {mt : hF} {me : hE} {y1 y2 y3 : Int32} (ha : y1 < 0 ∨ nI mk.1 ≤ y1) : ab_Con E l y_Mo_leaf b_Mo_leaf 5 (some .int) 1 21 [.ref 204, .int y1, .int y2, .int y3] (hc r s w c b d k t ++ hm ms mk mp mw mc md mt me) 0 0 (fun v h1 => v = some (.int (-1)) ∧ h1 = hc r s w c b d k t ++ hm ms mk mp mw mc md mt me) := by
  refine ab_con (own := "HiddenRowsModel") (ini := false) (by decide) (fun h => by cases h) rfl (Nat.le_of_ble_eq_true rfl) ?_
  intro G m X
  show ab_R E G m 5 0 0 0 [(0, .ref 204), (1, .int y1), (2, .int y2), (3, .int y3)] [] (hc r s w c b d k t ++ hm ms mk mp mw mc md mt me)
  refine a_aload_n X 0 d_Mo_leaf_0 rfl rfl ?_
  refine a_iload_n X 1 d_Mo_leaf_1 rfl rfl ?_
  refine a_callV X (a := 203) (As := [.int _]) mq_203 rfl fb_Mo_isKind lk_Mo_95 im_Mo_isKind se_Mo_isKind (c_Mo_isKind_n ha) rfl rfl (Nat.le_of_ble_eq_true rfl) (by decide) (by decide) (Nat.le_refl _) (Nat.le_refl _) d_Mo_leaf_2 (fun v h1 hp => ?_)
  obtain ⟨rfl, rfl⟩ := hp
  refine a_if_eqN X 17 (by omega) d_Mo_leaf_5 (by decide) (fun c5 => ?_) (fun c5 => ?_)
  ·
    refine a_iconst X (v := -1) d_Mo_leaf_17 (by decide) ?_
    exact a_iret X d_Mo_leaf_18 (Nat.le_refl _) (Nat.le_refl _) ⟨rfl, rfl⟩
  ·
    exfalso
    omega
set_option maxHeartbeats 4000000 in
set_option maxRecDepth 20000 in
theorem c_Mo_leaf_s {E : ab_E} {l : Launch} {r : hR} {s : hS} {w c : hW} {b : hB} {d : hD} {k : hK} {t : hT} {ms mk : hA} {mp : hP} {mw : Nat → Int32} {mc : hC} {md : Nat × (Nat → Int32)} {mt : hF} {me : hE} {a : Nat} {e y3 : Int32} (hq : mk.1 ≤ 4) (ha : a < mk.1) (he : e < 0 ∨ nI 4 ≤ e) : ab_Con E l y_Mo_leaf b_Mo_leaf 5 (some .int) 1 21 [.ref 204, .int (nI a), .int e, .int y3] (hc r s w c b d k t ++ hm ms mk mp mw mc md mt me) 0 0 (fun v h1 => v = some (.int (-1)) ∧ h1 = hc r s w c b d k t ++ hm ms mk mp mw mc md mt me) := by
  refine ab_con (own := "HiddenRowsModel") (ini := false) (by decide) (fun h => by cases h) rfl (Nat.le_of_ble_eq_true rfl) ?_
  intro G m X
  show ab_R E G m 5 0 0 0 [(0, .ref 204), (1, .int (nI a)), (2, .int e), (3, .int y3)] [] (hc r s w c b d k t ++ hm ms mk mp mw mc md mt me)
  refine a_aload_n X 0 d_Mo_leaf_0 rfl rfl ?_
  refine a_iload_n X 1 d_Mo_leaf_1 rfl rfl ?_
  refine a_callV X (a := 203) (As := [.int _]) mq_203 rfl fb_Mo_isKind lk_Mo_95 im_Mo_isKind se_Mo_isKind (c_Mo_isKind_y ha (by omega)) rfl rfl (Nat.le_of_ble_eq_true rfl) (by decide) (by decide) (Nat.le_refl _) (Nat.le_refl _) d_Mo_leaf_2 (fun v h1 hp => ?_)
  obtain ⟨rfl, rfl⟩ := hp
  refine a_if_eqN X 17 (by omega) d_Mo_leaf_5 (by decide) (fun c5 => ?_) (fun c5 => ?_)
  ·
    exfalso
    omega
  ·
    refine a_iload_n X 2 d_Mo_leaf_8 rfl rfl ?_
    refine a_if_lt X 17 d_Mo_leaf_9 (by decide) (fun c9 => ?_) (fun c9 => ?_)
    ·
      refine a_iconst X (v := -1) d_Mo_leaf_17 (by decide) ?_
      exact a_iret X d_Mo_leaf_18 (Nat.le_refl _) (Nat.le_refl _) ⟨rfl, rfl⟩
    ·
      refine a_iload_n X 2 d_Mo_leaf_12 rfl rfl ?_
      refine a_iconst X (v := nI 3) d_Mo_leaf_13 (by decide) ?_
      refine a_icmp_le X 19 d_Mo_leaf_14 (by decide) (fun c14 => ?_) (fun c14 => ?_)
      ·
        exfalso
        rcases he with q | q
        · exact c9 q
        · exact i_n4 q c14
      ·
        refine a_iconst X (v := -1) d_Mo_leaf_17 (by decide) ?_
        exact a_iret X d_Mo_leaf_18 (Nat.le_refl _) (Nat.le_refl _) ⟨rfl, rfl⟩
set_option maxHeartbeats 4000000 in
set_option maxRecDepth 20000 in
theorem c_Mo_leaf_x {E : ab_E} {l : Launch} {r : hR} {s : hS} {w c : hW} {b : hB} {d : hD} {k : hK} {t : hT} {ms mk : hA} {mp : hP} {mw : Nat → Int32} {mc : hC} {md : Nat × (Nat → Int32)} {mt : hF} {me : hE} {a z : Nat} {x : Int32} (hq : mk.1 ≤ 4) (ha : a < mk.1) (hz : z < 4) (hx : x < 0 ∨ nI 4 < x) : ab_Con E l y_Mo_leaf b_Mo_leaf 5 (some .int) 1 21 [.ref 204, .int (nI a), .int (nI z), .int x] (hc r s w c b d k t ++ hm ms mk mp mw mc md mt me) 0 0 (fun v h1 => v = some (.int (-2)) ∧ h1 = hc r s w c b d k t ++ hm ms mk mp mw mc md mt me) := by
  refine ab_con (own := "HiddenRowsModel") (ini := false) (by decide) (fun h => by cases h) rfl (Nat.le_of_ble_eq_true rfl) ?_
  intro G m X
  show ab_R E G m 5 0 0 0 [(0, .ref 204), (1, .int (nI a)), (2, .int (nI z)), (3, .int x)] [] (hc r s w c b d k t ++ hm ms mk mp mw mc md mt me)
  refine a_aload_n X 0 d_Mo_leaf_0 rfl rfl ?_
  refine a_iload_n X 1 d_Mo_leaf_1 rfl rfl ?_
  refine a_callV X (a := 203) (As := [.int _]) mq_203 rfl fb_Mo_isKind lk_Mo_95 im_Mo_isKind se_Mo_isKind (c_Mo_isKind_y ha (by omega)) rfl rfl (Nat.le_of_ble_eq_true rfl) (by decide) (by decide) (Nat.le_refl _) (Nat.le_refl _) d_Mo_leaf_2 (fun v h1 hp => ?_)
  obtain ⟨rfl, rfl⟩ := hp
  refine a_if_eqN X 17 (by omega) d_Mo_leaf_5 (by decide) (fun c5 => ?_) (fun c5 => ?_)
  ·
    exfalso
    omega
  ·
    refine a_iload_n X 2 d_Mo_leaf_8 rfl rfl ?_
    refine a_if_ltN X 17 (by omega) d_Mo_leaf_9 (by decide) ?_
    refine a_iload_n X 2 d_Mo_leaf_12 rfl rfl ?_
    refine a_iconst X (v := nI 3) d_Mo_leaf_13 (by decide) ?_
    refine a_icmp_leN X 19 (by omega) (by omega) d_Mo_leaf_14 (by decide) (fun c14 => ?_) (fun c14 => ?_)
    ·
      refine a_iload_n X 3 d_Mo_leaf_19 rfl rfl ?_
      refine a_callS X (As := [.int _]) fb_Mo_isWeight lk_Mo_92 sm_Mo_isWeight (c_Mo_isW_n hx) rfl rfl (Nat.le_of_ble_eq_true rfl) (by decide) (by decide) (Nat.le_refl _) (Nat.le_refl _) d_Mo_leaf_20 (fun v h1 hp => ?_)
      obtain ⟨rfl, rfl⟩ := hp
      refine a_if_neN X 29 (by omega) d_Mo_leaf_23 (by decide) (fun c23 => ?_) (fun c23 => ?_)
      ·
        exfalso
        omega
      ·
        refine a_bipush X (v := -2) d_Mo_leaf_26 (by decide) ?_
        exact a_iret X d_Mo_leaf_28 (Nat.le_refl _) (Nat.le_refl _) ⟨rfl, rfl⟩
    ·
      exfalso
      omega
set_option maxHeartbeats 4000000 in
set_option maxRecDepth 20000 in
theorem c_Mo_sign_ok {E : ab_E} {l : Launch} {r : hR} {s : hS} {w c : hW} {b : hB} {d : hD} {k : hK} {t : hT} {ms mk : hA} {mp : hP} {mw : Nat → Int32} {mc : hC} {md : Nat × (Nat → Int32)} {mt : hF} {me : hE} {x : Int32} (hx1 : ¬ x < -1) (hx2 : x < nI 4) (hn : mp.1 < 6) : ab_Con E l y_Mo_sign b_Mo_sign 2 (some .int) 1 20 [.ref 204, .int x] (hc r s w c b d k t ++ hm ms mk mp mw mc md mt me) 0 0 (fun v h1 => v = some (.int (nI (mp.1 + 1))) ∧ h1 = hc r s w c b d k t ++ hm ms mk (mp.1 + 1, upd mp.2.1 mp.1 x, upd mp.2.2 mp.1 (-1)) mw (0, mc.2) (0, md.2) mt me) := by
  refine ab_con (own := "HiddenRowsModel") (ini := false) (by decide) (fun h => by cases h) rfl (Nat.le_of_ble_eq_true rfl) ?_
  intro G m X
  show ab_R E G m 2 0 0 0 [(0, .ref 204), (1, .int x)] [] (hc r s w c b d k t ++ hm ms mk mp mw mc md mt me)
  refine a_iload_n X 1 d_Mo_sign_0 rfl rfl ?_
  refine a_iconst X (v := -1) d_Mo_sign_1 (by decide) ?_
  refine a_icmp_lt X 10 d_Mo_sign_2 (by decide) (fun c2 => ?_) (fun c2 => ?_)
  ·
    exfalso
    exact hx1 c2
  ·
    refine a_iload_n X 1 d_Mo_sign_5 rfl rfl ?_
    refine a_iconst X (v := nI 3) d_Mo_sign_6 (by decide) ?_
    refine a_icmp_le X 13 d_Mo_sign_7 (by decide) (fun c7 => ?_) (fun c7 => ?_)
    ·
      refine a_aload_n X 0 d_Mo_sign_13 rfl rfl ?_
      refine a_get X ff_Mo_82 d_Mo_sign_14 mq_203 rfl ?_
      refine a_bipush X (v := nI 6) d_Mo_sign_17 (by decide) ?_
      refine a_icmp_neN X 25 (by omega) (by omega) d_Mo_sign_19 (by decide) (fun c19 => ?_) (fun c19 => ?_)
      ·
        refine a_aload_n X 0 d_Mo_sign_25 rfl rfl ?_
        refine a_get X ff_Mo_22 d_Mo_sign_26 mq_203 rfl ?_
        refine a_aload_n X 0 d_Mo_sign_29 rfl rfl ?_
        refine a_get X ff_Mo_82 d_Mo_sign_30 mq_203 rfl ?_
        refine a_iload_n X 1 d_Mo_sign_33 rfl rfl ?_
        refine a_iast X d_Mo_sign_34 mq_208 rfl (ab_ix_nI (by omega) (by decide)) ?_
        refine ab_hp ma_signs ?_
        refine a_aload_n X 0 d_Mo_sign_35 rfl rfl ?_
        refine a_get X ff_Mo_25 d_Mo_sign_36 mq_203 rfl ?_
        refine a_aload_n X 0 d_Mo_sign_39 rfl rfl ?_
        refine a_get X ff_Mo_82 d_Mo_sign_40 mq_203 rfl ?_
        refine a_iconst X (v := -1) d_Mo_sign_43 (by decide) ?_
        refine a_iast X d_Mo_sign_44 mq_209 rfl (ab_ix_nI (by omega) (by decide)) ?_
        refine ab_hp ma_held ?_
        refine a_aload_n X 0 d_Mo_sign_45 rfl rfl ?_
        refine a_dup X d_Mo_sign_46 rfl ?_
        refine a_get X ff_Mo_82 d_Mo_sign_47 mq_203 rfl ?_
        refine a_iconst X (v := nI 1) d_Mo_sign_50 (by decide) ?_
        refine a_iadd X d_Mo_sign_51 ?_
        refine ab_topi (nI_add _ _) ?_
        refine a_put X ff_Mo_82 d_Mo_sign_52 mq_203 (Nat.le_of_ble_eq_true rfl) rfl rfl ?_
        refine ab_hp mo_set ?_
        refine a_aload_n X 0 d_Mo_sign_55 rfl rfl ?_
        refine a_callV X (a := 203) (As := []) mq_203 rfl fb_Mo_change lk_Mo_85 im_Mo_change se_Mo_change (c_Mo_chg) rfl rfl (Nat.le_of_ble_eq_true rfl) (by decide) (by decide) (Nat.le_refl _) (Nat.le_refl _) d_Mo_sign_56 (fun v h1 hp => ?_)
        obtain ⟨rfl, rfl⟩ := hp
        refine a_aload_n X 0 d_Mo_sign_59 rfl rfl ?_
        refine a_get X ff_Mo_82 d_Mo_sign_60 mq_203 rfl ?_
        exact a_iret X d_Mo_sign_63 (Nat.le_refl _) (Nat.le_refl _) ⟨rfl, rfl⟩
      ·
        exfalso
        omega
    ·
      exfalso
      exact c7 (i_le3 hx2)
set_option maxHeartbeats 4000000 in
set_option maxRecDepth 20000 in
theorem c_Mo_sign_b {E : ab_E} {l : Launch} {r : hR} {s : hS} {w c : hW} {b : hB} {d : hD} {k : hK} {t : hT} {ms mk : hA} {mp : hP} {mw : Nat → Int32} {mc : hC} {md : Nat × (Nat → Int32)} {mt : hF} {me : hE} {x : Int32} (hx : x < -1 ∨ nI 4 ≤ x) : ab_Con E l y_Mo_sign b_Mo_sign 2 (some .int) 1 20 [.ref 204, .int x] (hc r s w c b d k t ++ hm ms mk mp mw mc md mt me) 0 0 (fun v h1 => v = some (.int (-2)) ∧ h1 = hc r s w c b d k t ++ hm ms mk mp mw mc md mt me) := by
  refine ab_con (own := "HiddenRowsModel") (ini := false) (by decide) (fun h => by cases h) rfl (Nat.le_of_ble_eq_true rfl) ?_
  intro G m X
  show ab_R E G m 2 0 0 0 [(0, .ref 204), (1, .int x)] [] (hc r s w c b d k t ++ hm ms mk mp mw mc md mt me)
  refine a_iload_n X 1 d_Mo_sign_0 rfl rfl ?_
  refine a_iconst X (v := -1) d_Mo_sign_1 (by decide) ?_
  refine a_icmp_lt X 10 d_Mo_sign_2 (by decide) (fun c2 => ?_) (fun c2 => ?_)
  ·
    refine a_bipush X (v := -2) d_Mo_sign_10 (by decide) ?_
    exact a_iret X d_Mo_sign_12 (Nat.le_refl _) (Nat.le_refl _) ⟨rfl, rfl⟩
  ·
    refine a_iload_n X 1 d_Mo_sign_5 rfl rfl ?_
    refine a_iconst X (v := nI 3) d_Mo_sign_6 (by decide) ?_
    refine a_icmp_le X 13 d_Mo_sign_7 (by decide) (fun c7 => ?_) (fun c7 => ?_)
    ·
      exfalso
      rcases hx with q | q
      · exact c2 q
      · exact i_n4 q c7
    ·
      refine a_bipush X (v := -2) d_Mo_sign_10 (by decide) ?_
      exact a_iret X d_Mo_sign_12 (Nat.le_refl _) (Nat.le_refl _) ⟨rfl, rfl⟩
set_option maxHeartbeats 4000000 in
set_option maxRecDepth 20000 in
theorem c_Mo_sign_f {E : ab_E} {l : Launch} {r : hR} {s : hS} {w c : hW} {b : hB} {d : hD} {k : hK} {t : hT} {ms mk : hA} {mp : hP} {mw : Nat → Int32} {mc : hC} {md : Nat × (Nat → Int32)} {mt : hF} {me : hE} {x : Int32} (hx1 : ¬ x < -1) (hx2 : x < nI 4) (hn : mp.1 = 6) : ab_Con E l y_Mo_sign b_Mo_sign 2 (some .int) 1 20 [.ref 204, .int x] (hc r s w c b d k t ++ hm ms mk mp mw mc md mt me) 0 0 (fun v h1 => v = some (.int (-4)) ∧ h1 = hc r s w c b d k t ++ hm ms mk mp mw mc md mt me) := by
  refine ab_con (own := "HiddenRowsModel") (ini := false) (by decide) (fun h => by cases h) rfl (Nat.le_of_ble_eq_true rfl) ?_
  intro G m X
  show ab_R E G m 2 0 0 0 [(0, .ref 204), (1, .int x)] [] (hc r s w c b d k t ++ hm ms mk mp mw mc md mt me)
  refine a_iload_n X 1 d_Mo_sign_0 rfl rfl ?_
  refine a_iconst X (v := -1) d_Mo_sign_1 (by decide) ?_
  refine a_icmp_lt X 10 d_Mo_sign_2 (by decide) (fun c2 => ?_) (fun c2 => ?_)
  ·
    exfalso
    exact hx1 c2
  ·
    refine a_iload_n X 1 d_Mo_sign_5 rfl rfl ?_
    refine a_iconst X (v := nI 3) d_Mo_sign_6 (by decide) ?_
    refine a_icmp_le X 13 d_Mo_sign_7 (by decide) (fun c7 => ?_) (fun c7 => ?_)
    ·
      refine a_aload_n X 0 d_Mo_sign_13 rfl rfl ?_
      refine a_get X ff_Mo_82 d_Mo_sign_14 mq_203 rfl ?_
      refine a_bipush X (v := nI 6) d_Mo_sign_17 (by decide) ?_
      refine a_icmp_neN X 25 (by omega) (by omega) d_Mo_sign_19 (by decide) (fun c19 => ?_) (fun c19 => ?_)
      ·
        exfalso
        omega
      ·
        refine a_bipush X (v := -4) d_Mo_sign_22 (by decide) ?_
        exact a_iret X d_Mo_sign_24 (Nat.le_refl _) (Nat.le_refl _) ⟨rfl, rfl⟩
    ·
      exfalso
      exact c7 (i_le3 hx2)
set_option maxHeartbeats 4000000 in
set_option maxRecDepth 20000 in
theorem c_Mo_clear {E : ab_E} {l : Launch} {r : hR} {s : hS} {w c : hW} {b : hB} {d : hD} {k : hK} {t : hT} {ms mk : hA} {mp : hP} {mw : Nat → Int32} {mc : hC} {md : Nat × (Nat → Int32)} {mt : hF} {me : hE}  : ab_Con E l y_Mo_clear b_Mo_clear 2 (some .int) 1 20 [.ref 204] (hc r s w c b d k t ++ hm ms mk mp mw mc md mt me) 0 0 (fun v h1 => v = some (.int (nI mp.1)) ∧ h1 = hc r s w c b d k t ++ hm ms mk (0, mp.2) mw (0, mc.2) (0, md.2) mt me) := by
  refine ab_con (own := "HiddenRowsModel") (ini := false) (by decide) (fun h => by cases h) rfl (Nat.le_of_ble_eq_true rfl) ?_
  intro G m X
  show ab_R E G m 2 0 0 0 [(0, .ref 204)] [] (hc r s w c b d k t ++ hm ms mk mp mw mc md mt me)
  refine a_aload_n X 0 d_Mo_clear_0 rfl rfl ?_
  refine a_get X ff_Mo_82 d_Mo_clear_1 mq_203 rfl ?_
  refine a_istore_n X 1 d_Mo_clear_4 rfl (by decide) ?_
  refine a_aload_n X 0 d_Mo_clear_5 rfl rfl ?_
  refine a_iconst X (v := nI 0) d_Mo_clear_6 (by decide) ?_
  refine a_put X ff_Mo_82 d_Mo_clear_7 mq_203 (Nat.le_of_ble_eq_true rfl) rfl rfl ?_
  refine ab_hp mo_set ?_
  refine a_aload_n X 0 d_Mo_clear_10 rfl rfl ?_
  refine a_callV X (a := 203) (As := []) mq_203 rfl fb_Mo_change lk_Mo_85 im_Mo_change se_Mo_change (c_Mo_chg) rfl rfl (Nat.le_of_ble_eq_true rfl) (by decide) (by decide) (Nat.le_refl _) (Nat.le_refl _) d_Mo_clear_11 (fun v h1 hp => ?_)
  obtain ⟨rfl, rfl⟩ := hp
  refine a_iload_n X 1 d_Mo_clear_14 rfl rfl ?_
  exact a_iret X d_Mo_clear_15 (Nat.le_refl _) (Nat.le_refl _) ⟨rfl, rfl⟩
set_option maxHeartbeats 4000000 in
set_option maxRecDepth 20000 in
theorem c_Mo_hold_n {E : ab_E} {l : Launch} {r : hR} {s : hS} {w c : hW} {b : hB} {d : hD} {k : hK} {t : hT} {ms mk : hA} {mp : hP} {mw : Nat → Int32} {mc : hC} {md : Nat × (Nat → Int32)} {mt : hF} {me : hE} {p : Nat} (hn : mp.1 ≤ 6) (hp : p < mp.1) : ab_Con E l y_Mo_hold b_Mo_hold 4 (some .int) 1 21 [.ref 204, .int (nI p), .int (-1)] (hc r s w c b d k t ++ hm ms mk mp mw mc md mt me) 0 0 (fun v h1 => v = some (.int (mp.2.2 p)) ∧ h1 = hc r s w c b d k t ++ hm ms mk (mp.1, mp.2.1, upd mp.2.2 p (-1)) mw (0, mc.2) (0, md.2) mt me) := by
  refine ab_con (own := "HiddenRowsModel") (ini := false) (by decide) (fun h => by cases h) rfl (Nat.le_of_ble_eq_true rfl) ?_
  intro G m X
  show ab_R E G m 4 0 0 0 [(0, .ref 204), (1, .int (nI p)), (2, .int (-1))] [] (hc r s w c b d k t ++ hm ms mk mp mw mc md mt me)
  refine a_aload_n X 0 d_Mo_hold_0 rfl rfl ?_
  refine a_iload_n X 1 d_Mo_hold_1 rfl rfl ?_
  refine a_callV X (a := 203) (As := [.int _]) mq_203 rfl fb_Mo_isPlace lk_Mo_98 im_Mo_isPlace se_Mo_isPlace (c_Mo_isPlace_y hp hn) rfl rfl (Nat.le_of_ble_eq_true rfl) (by decide) (by decide) (Nat.le_refl _) (Nat.le_refl _) d_Mo_hold_2 (fun v h1 hp => ?_)
  obtain ⟨rfl, rfl⟩ := hp
  refine a_if_eqN X 21 (by omega) d_Mo_hold_5 (by decide) (fun c5 => ?_) (fun c5 => ?_)
  ·
    exfalso
    omega
  ·
    refine a_iload_n X 2 d_Mo_hold_8 rfl rfl ?_
    refine a_iconst X (v := -1) d_Mo_hold_9 (by decide) ?_
    refine a_icmp_eq X 23 d_Mo_hold_10 (by decide) (fun c10 => ?_) (fun c10 => ?_)
    ·
      refine a_aload_n X 0 d_Mo_hold_23 rfl rfl ?_
      refine a_get X ff_Mo_25 d_Mo_hold_24 mq_203 rfl ?_
      refine a_iload_n X 1 d_Mo_hold_27 rfl rfl ?_
      refine a_iald X d_Mo_hold_28 mq_209 rfl (ab_ix_nI (by omega) (by decide)) ?_
      refine a_istore_n X 3 d_Mo_hold_29 rfl (by decide) ?_
      refine a_aload_n X 0 d_Mo_hold_30 rfl rfl ?_
      refine a_get X ff_Mo_25 d_Mo_hold_31 mq_203 rfl ?_
      refine a_iload_n X 1 d_Mo_hold_34 rfl rfl ?_
      refine a_iload_n X 2 d_Mo_hold_35 rfl rfl ?_
      refine a_iast X d_Mo_hold_36 mq_209 rfl (ab_ix_nI (by omega) (by decide)) ?_
      refine ab_hp ma_held ?_
      refine a_aload_n X 0 d_Mo_hold_37 rfl rfl ?_
      refine a_callV X (a := 203) (As := []) mq_203 rfl fb_Mo_change lk_Mo_85 im_Mo_change se_Mo_change (c_Mo_chg) rfl rfl (Nat.le_of_ble_eq_true rfl) (by decide) (by decide) (Nat.le_refl _) (Nat.le_refl _) d_Mo_hold_38 (fun v h1 hp => ?_)
      obtain ⟨rfl, rfl⟩ := hp
      refine a_iload_n X 3 d_Mo_hold_41 rfl rfl ?_
      exact a_iret X d_Mo_hold_42 (Nat.le_refl _) (Nat.le_refl _) ⟨rfl, rfl⟩
    ·
      exfalso
      exact c10 rfl
set_option maxHeartbeats 4000000 in
set_option maxRecDepth 20000 in
theorem c_Mo_hold_s {E : ab_E} {l : Launch} {r : hR} {s : hS} {w c : hW} {b : hB} {d : hD} {k : hK} {t : hT} {ms mk : hA} {mp : hP} {mw : Nat → Int32} {mc : hC} {md : Nat × (Nat → Int32)} {mt : hF} {me : hE} {p j : Nat} (hn : mp.1 ≤ 6) (hp : p < mp.1) (hq : ms.1 ≤ 4) (hj : j < ms.1) : ab_Con E l y_Mo_hold b_Mo_hold 4 (some .int) 1 21 [.ref 204, .int (nI p), .int (nI j)] (hc r s w c b d k t ++ hm ms mk mp mw mc md mt me) 0 0 (fun v h1 => v = some (.int (mp.2.2 p)) ∧ h1 = hc r s w c b d k t ++ hm ms mk (mp.1, mp.2.1, upd mp.2.2 p (nI j)) mw (0, mc.2) (0, md.2) mt me) := by
  refine ab_con (own := "HiddenRowsModel") (ini := false) (by decide) (fun h => by cases h) rfl (Nat.le_of_ble_eq_true rfl) ?_
  intro G m X
  show ab_R E G m 4 0 0 0 [(0, .ref 204), (1, .int (nI p)), (2, .int (nI j))] [] (hc r s w c b d k t ++ hm ms mk mp mw mc md mt me)
  refine a_aload_n X 0 d_Mo_hold_0 rfl rfl ?_
  refine a_iload_n X 1 d_Mo_hold_1 rfl rfl ?_
  refine a_callV X (a := 203) (As := [.int _]) mq_203 rfl fb_Mo_isPlace lk_Mo_98 im_Mo_isPlace se_Mo_isPlace (c_Mo_isPlace_y hp hn) rfl rfl (Nat.le_of_ble_eq_true rfl) (by decide) (by decide) (Nat.le_refl _) (Nat.le_refl _) d_Mo_hold_2 (fun v h1 hp => ?_)
  obtain ⟨rfl, rfl⟩ := hp
  refine a_if_eqN X 21 (by omega) d_Mo_hold_5 (by decide) (fun c5 => ?_) (fun c5 => ?_)
  ·
    exfalso
    omega
  ·
    refine a_iload_n X 2 d_Mo_hold_8 rfl rfl ?_
    refine a_iconst X (v := -1) d_Mo_hold_9 (by decide) ?_
    refine a_icmp_eq X 23 d_Mo_hold_10 (by decide) (fun c10 => ?_) (fun c10 => ?_)
    ·
      exfalso
      exact absurd (c10 ▸ nI_pos (show j < 2 ^ 31 by omega)) (by decide)
    ·
      refine a_aload_n X 0 d_Mo_hold_13 rfl rfl ?_
      refine a_iload_n X 2 d_Mo_hold_14 rfl rfl ?_
      refine a_callV X (a := 203) (As := [.int _]) mq_203 rfl fb_Mo_isState lk_Mo_88 im_Mo_isState se_Mo_isState (c_Mo_isState_y hj (by omega)) rfl rfl (Nat.le_of_ble_eq_true rfl) (by decide) (by decide) (Nat.le_refl _) (Nat.le_refl _) d_Mo_hold_15 (fun v h1 hp => ?_)
      obtain ⟨rfl, rfl⟩ := hp
      refine a_if_neN X 23 (by omega) d_Mo_hold_18 (by decide) (fun c18 => ?_) (fun c18 => ?_)
      ·
        refine a_aload_n X 0 d_Mo_hold_23 rfl rfl ?_
        refine a_get X ff_Mo_25 d_Mo_hold_24 mq_203 rfl ?_
        refine a_iload_n X 1 d_Mo_hold_27 rfl rfl ?_
        refine a_iald X d_Mo_hold_28 mq_209 rfl (ab_ix_nI (by omega) (by decide)) ?_
        refine a_istore_n X 3 d_Mo_hold_29 rfl (by decide) ?_
        refine a_aload_n X 0 d_Mo_hold_30 rfl rfl ?_
        refine a_get X ff_Mo_25 d_Mo_hold_31 mq_203 rfl ?_
        refine a_iload_n X 1 d_Mo_hold_34 rfl rfl ?_
        refine a_iload_n X 2 d_Mo_hold_35 rfl rfl ?_
        refine a_iast X d_Mo_hold_36 mq_209 rfl (ab_ix_nI (by omega) (by decide)) ?_
        refine ab_hp ma_held ?_
        refine a_aload_n X 0 d_Mo_hold_37 rfl rfl ?_
        refine a_callV X (a := 203) (As := []) mq_203 rfl fb_Mo_change lk_Mo_85 im_Mo_change se_Mo_change (c_Mo_chg) rfl rfl (Nat.le_of_ble_eq_true rfl) (by decide) (by decide) (Nat.le_refl _) (Nat.le_refl _) d_Mo_hold_38 (fun v h1 hp => ?_)
        obtain ⟨rfl, rfl⟩ := hp
        refine a_iload_n X 3 d_Mo_hold_41 rfl rfl ?_
        exact a_iret X d_Mo_hold_42 (Nat.le_refl _) (Nat.le_refl _) ⟨rfl, rfl⟩
      ·
        exfalso
        omega
set_option maxHeartbeats 4000000 in
set_option maxRecDepth 20000 in
theorem c_Mo_hold_p {E : ab_E} {l : Launch} {r : hR} {s : hS} {w c : hW} {b : hB} {d : hD} {k : hK} {t : hT} {ms mk : hA} {mp : hP} {mw : Nat → Int32} {mc : hC} {md : Nat × (Nat → Int32)} {mt : hF} {me : hE} {a e : Int32} (ha : a < 0 ∨ nI mp.1 ≤ a) : ab_Con E l y_Mo_hold b_Mo_hold 4 (some .int) 1 21 [.ref 204, .int a, .int e] (hc r s w c b d k t ++ hm ms mk mp mw mc md mt me) 0 0 (fun v h1 => v = some (.int (-1)) ∧ h1 = hc r s w c b d k t ++ hm ms mk mp mw mc md mt me) := by
  refine ab_con (own := "HiddenRowsModel") (ini := false) (by decide) (fun h => by cases h) rfl (Nat.le_of_ble_eq_true rfl) ?_
  intro G m X
  show ab_R E G m 4 0 0 0 [(0, .ref 204), (1, .int a), (2, .int e)] [] (hc r s w c b d k t ++ hm ms mk mp mw mc md mt me)
  refine a_aload_n X 0 d_Mo_hold_0 rfl rfl ?_
  refine a_iload_n X 1 d_Mo_hold_1 rfl rfl ?_
  refine a_callV X (a := 203) (As := [.int _]) mq_203 rfl fb_Mo_isPlace lk_Mo_98 im_Mo_isPlace se_Mo_isPlace (c_Mo_isPlace_n ha) rfl rfl (Nat.le_of_ble_eq_true rfl) (by decide) (by decide) (Nat.le_refl _) (Nat.le_refl _) d_Mo_hold_2 (fun v h1 hp => ?_)
  obtain ⟨rfl, rfl⟩ := hp
  refine a_if_eqN X 21 (by omega) d_Mo_hold_5 (by decide) (fun c5 => ?_) (fun c5 => ?_)
  ·
    refine a_iconst X (v := -1) d_Mo_hold_21 (by decide) ?_
    exact a_iret X d_Mo_hold_22 (Nat.le_refl _) (Nat.le_refl _) ⟨rfl, rfl⟩
  ·
    exfalso
    omega
set_option maxHeartbeats 4000000 in
set_option maxRecDepth 20000 in
theorem c_Mo_hold_x {E : ab_E} {l : Launch} {r : hR} {s : hS} {w c : hW} {b : hB} {d : hD} {k : hK} {t : hT} {ms mk : hA} {mp : hP} {mw : Nat → Int32} {mc : hC} {md : Nat × (Nat → Int32)} {mt : hF} {me : hE} {p : Nat} {e : Int32} (hn : mp.1 ≤ 6) (hp : p < mp.1) (he1 : e ≠ -1) (he : e < 0 ∨ nI ms.1 ≤ e) : ab_Con E l y_Mo_hold b_Mo_hold 4 (some .int) 1 21 [.ref 204, .int (nI p), .int e] (hc r s w c b d k t ++ hm ms mk mp mw mc md mt me) 0 0 (fun v h1 => v = some (.int (-1)) ∧ h1 = hc r s w c b d k t ++ hm ms mk mp mw mc md mt me) := by
  refine ab_con (own := "HiddenRowsModel") (ini := false) (by decide) (fun h => by cases h) rfl (Nat.le_of_ble_eq_true rfl) ?_
  intro G m X
  show ab_R E G m 4 0 0 0 [(0, .ref 204), (1, .int (nI p)), (2, .int e)] [] (hc r s w c b d k t ++ hm ms mk mp mw mc md mt me)
  refine a_aload_n X 0 d_Mo_hold_0 rfl rfl ?_
  refine a_iload_n X 1 d_Mo_hold_1 rfl rfl ?_
  refine a_callV X (a := 203) (As := [.int _]) mq_203 rfl fb_Mo_isPlace lk_Mo_98 im_Mo_isPlace se_Mo_isPlace (c_Mo_isPlace_y hp hn) rfl rfl (Nat.le_of_ble_eq_true rfl) (by decide) (by decide) (Nat.le_refl _) (Nat.le_refl _) d_Mo_hold_2 (fun v h1 hp => ?_)
  obtain ⟨rfl, rfl⟩ := hp
  refine a_if_eqN X 21 (by omega) d_Mo_hold_5 (by decide) (fun c5 => ?_) (fun c5 => ?_)
  ·
    exfalso
    omega
  ·
    refine a_iload_n X 2 d_Mo_hold_8 rfl rfl ?_
    refine a_iconst X (v := -1) d_Mo_hold_9 (by decide) ?_
    refine a_icmp_eq X 23 d_Mo_hold_10 (by decide) (fun c10 => ?_) (fun c10 => ?_)
    ·
      exfalso
      exact he1 c10
    ·
      refine a_aload_n X 0 d_Mo_hold_13 rfl rfl ?_
      refine a_iload_n X 2 d_Mo_hold_14 rfl rfl ?_
      refine a_callV X (a := 203) (As := [.int _]) mq_203 rfl fb_Mo_isState lk_Mo_88 im_Mo_isState se_Mo_isState (c_Mo_isState_n he) rfl rfl (Nat.le_of_ble_eq_true rfl) (by decide) (by decide) (Nat.le_refl _) (Nat.le_refl _) d_Mo_hold_15 (fun v h1 hp => ?_)
      obtain ⟨rfl, rfl⟩ := hp
      refine a_if_neN X 23 (by omega) d_Mo_hold_18 (by decide) (fun c18 => ?_) (fun c18 => ?_)
      ·
        exfalso
        omega
      ·
        refine a_iconst X (v := -1) d_Mo_hold_21 (by decide) ?_
        exact a_iret X d_Mo_hold_22 (Nat.le_refl _) (Nat.le_refl _) ⟨rfl, rfl⟩
set_option maxHeartbeats 4000000 in
set_option maxRecDepth 20000 in
theorem c_Mo_state_no {E : ab_E} {l : Launch} {r : hR} {s : hS} {w c : hW} {b : hB} {d : hD} {k : hK} {t : hT} {ms mk : hA} {mp : hP} {mw : Nat → Int32} {mc : hC} {md : Nat × (Nat → Int32)} {mt : hF} {me : hE} (hq : ms.1 = 4) : ab_Con E l y_Mo_state b_Mo_state 2 (some .int) 1 20 [.ref 204] (hc r s w c b d k t ++ hm ms mk mp mw mc md mt me) 0 0 (fun v h1 => v = some (.int (-4)) ∧ h1 = hc r s w c b d k t ++ hm ms mk mp mw mc md mt me) := by
  refine ab_con (own := "HiddenRowsModel") (ini := false) (by decide) (fun h => by cases h) rfl (Nat.le_of_ble_eq_true rfl) ?_
  intro G m X
  show ab_R E G m 2 0 0 0 [(0, .ref 204)] [] (hc r s w c b d k t ++ hm ms mk mp mw mc md mt me)
  refine a_aload_n X 0 d_Mo_state_0 rfl rfl ?_
  refine a_get X ff_Mo_75 d_Mo_state_1 mq_203 rfl ?_
  refine a_iconst X (v := nI 4) d_Mo_state_4 (by decide) ?_
  refine a_icmp_neN X 11 (by omega) (by omega) d_Mo_state_5 (by decide) (fun c5 => ?_) (fun c5 => ?_)
  ·
    exfalso
    omega
  ·
    refine a_bipush X (v := -4) d_Mo_state_8 (by decide) ?_
    exact a_iret X d_Mo_state_10 (Nat.le_refl _) (Nat.le_refl _) ⟨rfl, rfl⟩
set_option maxHeartbeats 4000000 in
set_option maxRecDepth 20000 in
theorem c_Mo_state_ok {E : ab_E} {l : Launch} {r : hR} {s : hS} {w c : hW} {b : hB} {d : hD} {k : hK} {t : hT} {ms mk : hA} {mp : hP} {mw : Nat → Int32} {mc : hC} {md : Nat × (Nat → Int32)} {mt : hF} {me : hE} (hq : ms.1 < 4) : ab_Con E l y_Mo_state b_Mo_state 2 (some .int) 1 20 [.ref 204] (hc r s w c b d k t ++ hm ms mk mp mw mc md mt me) 0 0 (fun v h1 => v = some (.int (nI ms.1)) ∧ h1 = hc r s w c b d k t ++ hm (ms.1 + 1, mW ms.2.1 ms.1 9, mV ms.2.2 ms.1 (ms.1 + 1)) mk mp mw (0, mc.2) (0, md.2) mt me) := by
  refine ab_con (own := "HiddenRowsModel") (ini := false) (by decide) (fun h => by cases h) rfl (Nat.le_of_ble_eq_true rfl) ?_
  intro G m X
  show ab_R E G m 2 0 0 0 [(0, .ref 204)] [] (hc r s w c b d k t ++ hm ms mk mp mw mc md mt me)
  refine a_aload_n X 0 d_Mo_state_0 rfl rfl ?_
  refine a_get X ff_Mo_75 d_Mo_state_1 mq_203 rfl ?_
  refine a_iconst X (v := nI 4) d_Mo_state_4 (by decide) ?_
  refine a_icmp_neN X 11 (by omega) (by omega) d_Mo_state_5 (by decide) (fun c5 => ?_) (fun c5 => ?_)
  ·
    refine a_iconst X (v := nI 0) d_Mo_state_11 (by decide) ?_
    refine a_istore_n X 1 d_Mo_state_12 rfl (by decide) ?_
    refine ab_sub [(0, .ref 204), (1, .int (nI 0))] rfl ?_
    refine ab_hp (show _ = hc r s w c b d k t ++ hm (ms.1, mW ms.2.1 ms.1 0, ms.2.2) mk mp mw mc md mt me by rw [mW_zero]) ?_
    suffices LP : ∀ (mm i : Nat), i ≤ 9 → 9 - i < mm → ab_R E G m 2 0 0 13 [(0, .ref 204), (1, .int (nI i))] [] (hc r s w c b d k t ++ hm (ms.1, mW ms.2.1 ms.1 i, ms.2.2) mk mp mw mc md mt me) from LP 10 0 (by omega) (by omega)
    intro mm
    induction mm with
    | zero => intro i h1 h2; exfalso; omega
    | succ mm ih =>
      intro i h1 h2
      refine a_iload_n X 1 d_Mo_state_13 rfl rfl ?_
      refine a_bipush X (v := nI 9) d_Mo_state_14 (by decide) ?_
      refine a_icmp_geN X 49 (by omega) (by omega) d_Mo_state_16 (by decide) (fun c16 => ?_) (fun c16 => ?_)
      ·
        obtain rfl : i = 9 := by omega
        refine a_iconst X (v := nI 0) d_Mo_state_49 (by decide) ?_
        refine a_istore_n X 1 d_Mo_state_50 rfl (by decide) ?_
        refine ab_sub [(0, .ref 204), (1, .int (nI 0))] rfl ?_
        refine ab_hp (show _ = hc r s w c b d k t ++ hm (ms.1, mW ms.2.1 ms.1 9, mV ms.2.2 ms.1 0) mk mp mw mc md mt me by rw [mV_zero]) ?_
        suffices LP : ∀ (mm i : Nat), i ≤ ms.1 + 1 → ms.1 + 1 - i < mm → ab_R E G m 2 0 0 51 [(0, .ref 204), (1, .int (nI i))] [] (hc r s w c b d k t ++ hm (ms.1, mW ms.2.1 ms.1 9, mV ms.2.2 ms.1 i) mk mp mw mc md mt me) from LP (ms.1 + 2) 0 (by omega) (by omega)
        clear ih h1 h2
        intro mm
        induction mm with
        | zero => intro i h1 h2; exfalso; omega
        | succ mm ih =>
          intro i h1 h2
          refine a_iload_n X 1 d_Mo_state_51 rfl rfl ?_
          refine a_aload_n X 0 d_Mo_state_52 rfl rfl ?_
          refine a_get X ff_Mo_75 d_Mo_state_53 mq_203 rfl ?_
          refine a_icmp_gtN X 93 (by omega) (by omega) d_Mo_state_56 (by decide) (fun c56 => ?_) (fun c56 => ?_)
          ·
            obtain rfl : i = ms.1 + 1 := by omega
            refine a_aload_n X 0 d_Mo_state_93 rfl rfl ?_
            refine a_dup X d_Mo_state_94 rfl ?_
            refine a_get X ff_Mo_75 d_Mo_state_95 mq_203 rfl ?_
            refine a_iconst X (v := nI 1) d_Mo_state_98 (by decide) ?_
            refine a_iadd X d_Mo_state_99 ?_
            refine ab_topi (nI_add _ _) ?_
            refine a_put X ff_Mo_75 d_Mo_state_100 mq_203 (Nat.le_of_ble_eq_true rfl) rfl rfl ?_
            refine ab_hp mo_set ?_
            refine a_aload_n X 0 d_Mo_state_103 rfl rfl ?_
            refine a_callV X (a := 203) (As := []) mq_203 rfl fb_Mo_change lk_Mo_85 im_Mo_change se_Mo_change (c_Mo_chg) rfl rfl (Nat.le_of_ble_eq_true rfl) (by decide) (by decide) (Nat.le_refl _) (Nat.le_refl _) d_Mo_state_104 (fun v h1 hp => ?_)
            obtain ⟨rfl, rfl⟩ := hp
            refine a_aload_n X 0 d_Mo_state_107 rfl rfl ?_
            refine a_get X ff_Mo_75 d_Mo_state_108 mq_203 rfl ?_
            refine a_iconst X (v := nI 1) d_Mo_state_111 (by decide) ?_
            refine a_isub X d_Mo_state_112 ?_
            refine ab_topi (pk_sub (a := ms.1 + 1) (b := 1) (by omega)) ?_
            exact a_iret X d_Mo_state_113 (Nat.le_refl _) (Nat.le_refl _) ⟨by rw [Nat.add_sub_cancel], rfl⟩
          ·
            refine a_aload_n X 0 d_Mo_state_59 rfl rfl ?_
            refine a_get X ff_Mo_13 d_Mo_state_60 mq_203 rfl ?_
            refine a_iconst X (v := nI 4) d_Mo_state_63 (by decide) ?_
            refine a_aload_n X 0 d_Mo_state_64 rfl rfl ?_
            refine a_get X ff_Mo_75 d_Mo_state_65 mq_203 rfl ?_
            refine a_imul X d_Mo_state_68 ?_
            refine ab_topi (pk_mul _ _) ?_
            refine a_iload_n X 1 d_Mo_state_69 rfl rfl ?_
            refine a_iadd X d_Mo_state_70 ?_
            refine ab_topi (nI_add _ _) ?_
            refine a_iconst X (v := nI 0) d_Mo_state_71 (by decide) ?_
            refine a_iast X d_Mo_state_72 mq_205 rfl (ab_ix_nI (by omega) (by decide)) ?_
            refine ab_hp ma_moves ?_
            refine a_aload_n X 0 d_Mo_state_73 rfl rfl ?_
            refine a_get X ff_Mo_13 d_Mo_state_74 mq_203 rfl ?_
            refine a_iconst X (v := nI 4) d_Mo_state_77 (by decide) ?_
            refine a_iload_n X 1 d_Mo_state_78 rfl rfl ?_
            refine a_imul X d_Mo_state_79 ?_
            refine ab_topi (pk_mul _ _) ?_
            refine a_aload_n X 0 d_Mo_state_80 rfl rfl ?_
            refine a_get X ff_Mo_75 d_Mo_state_81 mq_203 rfl ?_
            refine a_iadd X d_Mo_state_84 ?_
            refine ab_topi (nI_add _ _) ?_
            refine a_iconst X (v := nI 0) d_Mo_state_85 (by decide) ?_
            refine a_iast X d_Mo_state_86 mq_205 rfl (ab_ix_nI (by omega) (by decide)) ?_
            refine ab_hp ma_moves ?_
            refine a_incN X d_Mo_state_87 rfl (by decide) ?_
            refine a_goto X 51 d_Mo_state_90 (by decide) ?_
            refine ab_sub [(0, .ref 204), (1, .int (nI (i + 1)))] rfl ?_
            refine ab_hp (show _ = hc r s w c b d k t ++ hm (ms.1, mW ms.2.1 ms.1 9, mV ms.2.2 ms.1 (i + 1)) mk mp mw mc md mt me by rw [← mV_succ _ _ _ hq (by omega)]) ?_
            exact ih (i + 1) (by omega) (by omega)
      ·
        refine a_aload_n X 0 d_Mo_state_19 rfl rfl ?_
        refine a_get X ff_Mo_7 d_Mo_state_20 mq_203 rfl ?_
        refine a_bipush X (v := nI 9) d_Mo_state_23 (by decide) ?_
        refine a_aload_n X 0 d_Mo_state_25 rfl rfl ?_
        refine a_get X ff_Mo_75 d_Mo_state_26 mq_203 rfl ?_
        refine a_imul X d_Mo_state_29 ?_
        refine ab_topi (pk_mul _ _) ?_
        refine a_iload_n X 1 d_Mo_state_30 rfl rfl ?_
        refine a_iadd X d_Mo_state_31 ?_
        refine ab_topi (nI_add _ _) ?_
        refine a_iload_n X 1 d_Mo_state_32 rfl rfl ?_
        refine a_iconst X (v := nI 3) d_Mo_state_33 (by decide) ?_
        refine a_icmp_geN X 41 (by omega) (by omega) d_Mo_state_34 (by decide) (fun c34 => ?_) (fun c34 => ?_)
        ·
          refine a_iconst X (v := nI 0) d_Mo_state_41 (by decide) ?_
          refine a_iast X d_Mo_state_42 mq_204 rfl (ab_ix_nI (by omega) (by decide)) ?_
          refine ab_hp ma_weights ?_
          refine a_incN X d_Mo_state_43 rfl (by decide) ?_
          refine a_goto X 13 d_Mo_state_46 (by decide) ?_
          refine ab_sub [(0, .ref 204), (1, .int (nI (i + 1)))] rfl ?_
          refine ab_hp (show _ = hc r s w c b d k t ++ hm (ms.1, mW ms.2.1 ms.1 (i + 1), ms.2.2) mk mp mw mc md mt me by first | rw [← mW_one _ _ _ (by omega)] | rw [← mW_nul _ _ _ (by omega)]) ?_
          exact ih (i + 1) (by omega) (by omega)
        ·
          refine a_iconst X (v := nI 1) d_Mo_state_37 (by decide) ?_
          refine a_goto X 42 d_Mo_state_38 (by decide) ?_
          refine a_iast X d_Mo_state_42 mq_204 rfl (ab_ix_nI (by omega) (by decide)) ?_
          refine ab_hp ma_weights ?_
          refine a_incN X d_Mo_state_43 rfl (by decide) ?_
          refine a_goto X 13 d_Mo_state_46 (by decide) ?_
          refine ab_sub [(0, .ref 204), (1, .int (nI (i + 1)))] rfl ?_
          refine ab_hp (show _ = hc r s w c b d k t ++ hm (ms.1, mW ms.2.1 ms.1 (i + 1), ms.2.2) mk mp mw mc md mt me by first | rw [← mW_one _ _ _ (by omega)] | rw [← mW_nul _ _ _ (by omega)]) ?_
          exact ih (i + 1) (by omega) (by omega)
  ·
    exfalso
    omega
