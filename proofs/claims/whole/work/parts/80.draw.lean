def opS (s : hS) (w : hW) (d : hD) (p : Nat) : Nat := if 1 ≤ p - d.2.2.1 ∧ p - d.2.2.1 ≤ 3 then segR id s w.1 d.2.2.1 (p - d.2.2.1) d.2.1 else 0
def cloS (s : hS) (d : hD) (p st : Nat) : Nat := if p = 0 then s.1 st 0 else d.2.2.2.1 * s.2.1 d.2.1 st
def sumD (s : hS) (n : Nat) (w : hW) (d : hD) (p x : Nat) : Nat := if x % 2 = 0 then d.1 * cloS s d p (x / 2) * w.2.1 p (x / 2) else if p = 0 ∨ x / 2 ≠ d.2.1 then 0 else d.1 * lonR id s n w.1 w.2.2.1 (p - d.2.2.1) d.2.2.1 (x / 2)
def takD (s : hS) (d : hD) (p x : Nat) : hD := if x % 2 = 0 then (d.1 * cloS s d p (x / 2), x / 2, p, d.2.2.2.1, d.2.2.2.2.1 * 8 + x, d.2.2.2.2.2) else (d.1, d.2.1, d.2.2.1, d.2.2.2.1, d.2.2.2.2.1 * 8 + x, d.2.2.2.2.2)
set_option maxHeartbeats 4000000 in
set_option maxRecDepth 20000 in
theorem c_Dr_spread {E : ab_E} {l : Launch} {Z : List ab_C} {x : Int32} : ab_Con E l y_Dr_spread b_Dr_spread 3 (some .long) 0 0 [.int x] (Z) 0 0 (fun v h1 => v = some (.long (lN (drN x))) ∧ h1 = Z) := by
  refine ab_con (own := "HiddenRows$Drawing") (ini := false) (by decide) (fun h => by cases h) rfl (Nat.le_of_ble_eq_true rfl) ?_
  intro G m X
  show ab_R E G m 3 0 0 0 [(0, .int x)] [] (Z)
  refine a_iload_n X 0 d_Dr_spread_0 rfl rfl ?_
  refine a_ldc X kc_Dr_44 d_Dr_spread_1 ?_
  refine a_imul X d_Dr_spread_3 ?_
  refine a_ldc X kc_Dr_45 d_Dr_spread_4 ?_
  refine a_iadd X d_Dr_spread_6 ?_
  refine a_istore_n X 1 d_Dr_spread_7 rfl (by decide) ?_
  refine a_iload_n X 1 d_Dr_spread_8 rfl rfl ?_
  refine a_ldc X kc_Dr_44 d_Dr_spread_9 ?_
  refine a_imul X d_Dr_spread_11 ?_
  refine a_ldc X kc_Dr_45 d_Dr_spread_12 ?_
  refine a_iadd X d_Dr_spread_14 ?_
  refine a_istore_n X 2 d_Dr_spread_15 rfl (by decide) ?_
  refine a_ldc2 X kc_Dr_46 d_Dr_spread_16 ?_
  refine a_iload_n X 1 d_Dr_spread_19 rfl rfl ?_
  refine a_iconst X (v := nI 1) d_Dr_spread_20 (by decide) ?_
  refine a_iushr X d_Dr_spread_21 ?_
  refine ab_topi (us_eq _) ?_
  refine a_i2l X d_Dr_spread_22 ?_
  refine ab_topl (nI_l (usR_lt _)) ?_
  refine a_lmul X d_Dr_spread_23 ?_
  refine ab_topl (lN_mul 2147483648 _) ?_
  refine a_iload_n X 2 d_Dr_spread_24 rfl rfl ?_
  refine a_iconst X (v := nI 1) d_Dr_spread_25 (by decide) ?_
  refine a_iushr X d_Dr_spread_26 ?_
  refine ab_topi (us_eq _) ?_
  refine a_i2l X d_Dr_spread_27 ?_
  refine ab_topl (nI_l (usR_lt _)) ?_
  refine a_ladd X d_Dr_spread_28 ?_
  refine ab_topl (lN_add _ _) ?_
  exact a_lret X d_Dr_spread_29 (Nat.le_refl _) (Nat.le_refl _) ⟨rfl, rfl⟩
set_option maxHeartbeats 4000000 in
set_option maxRecDepth 20000 in
theorem c_Dr_ops {E : ab_E} {l : Launch} {r : hR} {s : hS} {w c : hW} {b : hB} {d : hD} {k : hK} {t : hT} {Z : List ab_C} {p : Nat} (hw : ∀ i j, s.1 i j ≤ 4) (hob : d.2.2.1 ≤ p) (hp : p ≤ 6) (hos : d.2.1 < 4) : ab_Con E l y_Dr_openSegment b_Dr_openSegment 3 (some .long) 2 47 [.ref 169, .int (nI p)] (hc r s w c b d k t ++ Z) 0 0 (fun v h1 => v = some (.long (lN (opS s w d p))) ∧ h1 = hc r s w c b d k t ++ Z) := by
  refine ab_con (own := "HiddenRows$Drawing") (ini := false) (by decide) (fun h => by cases h) rfl (Nat.le_of_ble_eq_true rfl) ?_
  intro G m X
  show ab_R E G m 3 0 0 0 [(0, .ref 169), (1, .int (nI p))] [] (hc r s w c b d k t ++ Z)
  refine a_iload_n X 1 d_Dr_openSegment_0 rfl rfl ?_
  refine a_aload_n X 0 d_Dr_openSegment_1 rfl rfl ?_
  refine a_get X ff_Dr_19 d_Dr_openSegment_2 hq_168 rfl ?_
  refine a_isub X d_Dr_openSegment_5 ?_
  refine ab_topi (pk_sub (by omega)) ?_
  refine a_istore_n X 2 d_Dr_openSegment_6 rfl (by decide) ?_
  refine a_iload_n X 2 d_Dr_openSegment_7 rfl rfl ?_
  refine a_iconst X (v := nI 1) d_Dr_openSegment_8 (by decide) ?_
  refine a_icmp_ltN X 36 (by omega) (by omega) d_Dr_openSegment_9 (by decide) (fun c9 => ?_) (fun c9 => ?_)
  ·
    refine a_lconst X (v := lN 0) d_Dr_openSegment_36 (by decide) ?_
    exact a_lret X d_Dr_openSegment_37 (Nat.le_refl _) (Nat.le_refl _) ⟨by unfold opS; first | rw [if_pos ⟨by omega, by omega⟩] | rw [if_neg (by omega)], rfl⟩
  ·
    refine a_iload_n X 2 d_Dr_openSegment_12 rfl rfl ?_
    refine a_iconst X (v := nI 3) d_Dr_openSegment_13 (by decide) ?_
    refine a_icmp_gtN X 36 (by omega) (by omega) d_Dr_openSegment_14 (by decide) (fun c14 => ?_) (fun c14 => ?_)
    ·
      refine a_lconst X (v := lN 0) d_Dr_openSegment_36 (by decide) ?_
      exact a_lret X d_Dr_openSegment_37 (Nat.le_refl _) (Nat.le_refl _) ⟨by unfold opS; first | rw [if_pos ⟨by omega, by omega⟩] | rw [if_neg (by omega)], rfl⟩
    ·
      refine a_aload_n X 0 d_Dr_openSegment_17 rfl rfl ?_
      refine a_get X ff_Dr_40 d_Dr_openSegment_18 hq_168 rfl ?_
      refine a_aload_n X 0 d_Dr_openSegment_21 rfl rfl ?_
      refine a_get X ff_Dr_19 d_Dr_openSegment_22 hq_168 rfl ?_
      refine a_iload_n X 2 d_Dr_openSegment_25 rfl rfl ?_
      refine a_aload_n X 0 d_Dr_openSegment_26 rfl rfl ?_
      refine a_get X ff_Dr_15 d_Dr_openSegment_27 hq_168 rfl ?_
      refine a_callV X (a := 15) (As := [.int (nI _), .int (nI _), .int (nI _)]) hq_15 rfl fb_Ws_segment lk_Dr_97 im_Ws_segment se_Ws_segment (c_seg_w hw (by omega) (by omega) hos (by omega)) rfl rfl (Nat.le_of_ble_eq_true rfl) (by decide) (by decide) (Nat.le_refl _) (Nat.le_refl _) d_Dr_openSegment_30 (fun v h1 hp => ?_)
      obtain ⟨rfl, rfl⟩ := hp
      refine a_goto X 37 d_Dr_openSegment_33 (by decide) ?_
      exact a_lret X d_Dr_openSegment_37 (Nat.le_refl _) (Nat.le_refl _) ⟨by unfold opS; first | rw [if_pos ⟨by omega, by omega⟩] | rw [if_neg (by omega)], rfl⟩
set_option maxHeartbeats 4000000 in
set_option maxRecDepth 20000 in
theorem c_Dr_clo {E : ab_E} {l : Launch} {r : hR} {s : hS} {w c : hW} {b : hB} {d : hD} {k : hK} {t : hT} {Z : List ab_C} {p st : Nat} (hs : okS s) (hst : st < 4) (hp : p ≤ 6) (hos : d.2.1 < 4) : ab_Con E l y_Dr_closing b_Dr_closing 3 (some .long) 0 0 [.ref 169, .int (nI p), .int (nI st)] (hc r s w c b d k t ++ Z) 0 0 (fun v h1 => v = some (.long (lN (cloS s d p st))) ∧ h1 = hc r s w c b d k t ++ Z) := by
  refine ab_con (own := "HiddenRows$Drawing") (ini := false) (by decide) (fun h => by cases h) rfl (Nat.le_of_ble_eq_true rfl) ?_
  intro G m X
  show ab_R E G m 3 0 0 0 [(0, .ref 169), (1, .int (nI p)), (2, .int (nI st))] [] (hc r s w c b d k t ++ Z)
  refine a_iload_n X 1 d_Dr_closing_0 rfl rfl ?_
  refine a_if_neN X 17 (by omega) d_Dr_closing_1 (by decide) (fun c1 => ?_) (fun c1 => ?_)
  ·
    refine a_aload_n X 0 d_Dr_closing_17 rfl rfl ?_
    refine a_get X ff_Dr_22 d_Dr_closing_18 hq_168 rfl ?_
    refine a_aload_n X 0 d_Dr_closing_21 rfl rfl ?_
    refine a_get X ff_Dr_36 d_Dr_closing_22 hq_168 rfl ?_
    refine a_get X ff_Dr_94 d_Dr_closing_25 hq_4 rfl ?_
    refine a_aload_n X 0 d_Dr_closing_28 rfl rfl ?_
    refine a_get X ff_Dr_15 d_Dr_closing_29 hq_168 rfl ?_
    refine a_aald X d_Dr_closing_32 hq_10 rfl rfl (ab_ix_nI (by omega) (by decide)) (hg_mv (by omega)) ?_
    refine a_iload_n X 2 d_Dr_closing_33 rfl rfl ?_
    refine a_iald X d_Dr_closing_34 (hr_mv (by omega)) rfl (ab_ix_nI (by omega) (by decide)) ?_
    refine a_i2l X d_Dr_closing_35 ?_
    refine ab_topl (nI_l (by have := hs.2.2 d.2.1 st; omega)) ?_
    refine a_lmul X d_Dr_closing_36 ?_
    refine ab_topl (lN_mul _ _) ?_
    exact a_lret X d_Dr_closing_37 (Nat.le_refl _) (Nat.le_refl _) ⟨by unfold cloS; rw [if_neg (by omega)], rfl⟩
  ·
    refine a_aload_n X 0 d_Dr_closing_4 rfl rfl ?_
    refine a_get X ff_Dr_36 d_Dr_closing_5 hq_168 rfl ?_
    refine a_get X ff_Dr_66 d_Dr_closing_8 hq_4 rfl ?_
    refine a_iload_n X 2 d_Dr_closing_11 rfl rfl ?_
    refine a_aald X d_Dr_closing_12 hq_5 rfl rfl (ab_ix_nI (by omega) (by decide)) (hg_wt (by omega)) ?_
    refine a_iconst X (v := nI 0) d_Dr_closing_13 (by decide) ?_
    refine a_iald X d_Dr_closing_14 (hr_wt (by omega)) rfl (ab_ix_nI (by omega) (by decide)) ?_
    refine a_i2l X d_Dr_closing_15 ?_
    refine ab_topl (nI_l (by have := hs.2.1 st 0; omega)) ?_
    exact a_lret X d_Dr_closing_16 (Nat.le_refl _) (Nat.le_refl _) ⟨by unfold cloS; rw [if_pos c1], rfl⟩
set_option maxHeartbeats 4000000 in
set_option maxRecDepth 20000 in
theorem c_Dr_sum {E : ab_E} {l : Launch} {r : hR} {s : hS} {w c : hW} {b : hB} {d : hD} {k : hK} {t : hT} {Z : List ab_C} {p x : Nat} (hn : r.2.2 ≤ 6) (hs : okS s) (hx : x < 8) (hp : p < r.2.2) (hos : d.2.1 < 4) (hob : d.2.2.1 ≤ p) (hlen : p - d.2.2.1 ≤ 3) : ab_Con E l y_Dr_sumTelling b_Dr_sumTelling 4 (some .long) 3 73 [.ref 169, .int (nI p), .int (nI x)] (hc r s w c b d k t ++ Z) 0 0 (fun v h1 => v = some (.long (lN (sumD s r.2.2 w d p x))) ∧ h1 = hc r s w c b d k t ++ Z) := by
  refine ab_con (own := "HiddenRows$Drawing") (ini := false) (by decide) (fun h => by cases h) rfl (Nat.le_of_ble_eq_true rfl) ?_
  intro G m X
  show ab_R E G m 4 0 0 0 [(0, .ref 169), (1, .int (nI p)), (2, .int (nI x))] [] (hc r s w c b d k t ++ Z)
  refine a_iload_n X 2 d_Dr_sumTelling_0 rfl rfl ?_
  refine a_iconst X (v := nI 2) d_Dr_sumTelling_1 (by decide) ?_
  refine a_idiv X d_Dr_sumTelling_2 (by decide) ?_
  refine ab_topi (pk_div (by omega) (by omega) (by omega)) ?_
  refine a_istore_n X 3 d_Dr_sumTelling_3 rfl (by decide) ?_
  refine a_iload_n X 2 d_Dr_sumTelling_4 rfl rfl ?_
  refine a_iconst X (v := nI 2) d_Dr_sumTelling_5 (by decide) ?_
  refine a_irem X d_Dr_sumTelling_6 (by decide) ?_
  refine ab_topi (pk_rem (by omega) (by omega) (by omega)) ?_
  refine a_if_neN X 34 (by omega) d_Dr_sumTelling_7 (by decide) (fun c7 => ?_) (fun c7 => ?_)
  ·
    refine a_iload_n X 1 d_Dr_sumTelling_34 rfl rfl ?_
    refine a_if_eqN X 46 (by omega) d_Dr_sumTelling_35 (by decide) (fun c35 => ?_) (fun c35 => ?_)
    ·
      refine a_lconst X (v := lN 0) d_Dr_sumTelling_46 (by decide) ?_
      exact a_lret X d_Dr_sumTelling_47 (Nat.le_refl _) (Nat.le_refl _) ⟨by unfold sumD; rw [if_neg (by omega)]; first | rw [if_pos (Or.inl c35)] | rw [if_pos (Or.inr c43)], rfl⟩
    ·
      refine a_iload_n X 3 d_Dr_sumTelling_38 rfl rfl ?_
      refine a_aload_n X 0 d_Dr_sumTelling_39 rfl rfl ?_
      refine a_get X ff_Dr_15 d_Dr_sumTelling_40 hq_168 rfl ?_
      refine a_icmp_eqN X 48 (by omega) (by omega) d_Dr_sumTelling_43 (by decide) (fun c43 => ?_) (fun c43 => ?_)
      ·
        refine a_aload_n X 0 d_Dr_sumTelling_48 rfl rfl ?_
        refine a_get X ff_Dr_9 d_Dr_sumTelling_49 hq_168 rfl ?_
        refine a_aload_n X 0 d_Dr_sumTelling_52 rfl rfl ?_
        refine a_get X ff_Dr_40 d_Dr_sumTelling_53 hq_168 rfl ?_
        refine a_iload_n X 1 d_Dr_sumTelling_56 rfl rfl ?_
        refine a_aload_n X 0 d_Dr_sumTelling_57 rfl rfl ?_
        refine a_get X ff_Dr_19 d_Dr_sumTelling_58 hq_168 rfl ?_
        refine a_isub X d_Dr_sumTelling_61 ?_
        refine ab_topi (pk_sub (by omega)) ?_
        refine a_aload_n X 0 d_Dr_sumTelling_62 rfl rfl ?_
        refine a_get X ff_Dr_19 d_Dr_sumTelling_63 hq_168 rfl ?_
        refine a_iload_n X 3 d_Dr_sumTelling_66 rfl rfl ?_
        refine a_callV X (a := 15) (As := [.int (nI _), .int (nI _), .int (nI _)]) hq_15 rfl fb_Ws_longerThan lk_Dr_90 im_Ws_longerThan se_Ws_longerThan (c_lon_w hs.2.1 hn hlen (by omega) (by omega)) rfl rfl (Nat.le_of_ble_eq_true rfl) (by decide) (by decide) (Nat.le_refl _) (Nat.le_refl _) d_Dr_sumTelling_67 (fun v h1 hp => ?_)
        obtain ⟨rfl, rfl⟩ := hp
        refine a_lmul X d_Dr_sumTelling_70 ?_
        refine ab_topl (lN_mul _ _) ?_
        exact a_lret X d_Dr_sumTelling_71 (Nat.le_refl _) (Nat.le_refl _) ⟨by unfold sumD; rw [if_neg (by omega), if_neg (by omega)], rfl⟩
      ·
        refine a_lconst X (v := lN 0) d_Dr_sumTelling_46 (by decide) ?_
        exact a_lret X d_Dr_sumTelling_47 (Nat.le_refl _) (Nat.le_refl _) ⟨by unfold sumD; rw [if_neg (by omega)]; first | rw [if_pos (Or.inl c35)] | rw [if_pos (Or.inr c43)], rfl⟩
  ·
    refine a_aload_n X 0 d_Dr_sumTelling_10 rfl rfl ?_
    refine a_get X ff_Dr_9 d_Dr_sumTelling_11 hq_168 rfl ?_
    refine a_aload_n X 0 d_Dr_sumTelling_14 rfl rfl ?_
    refine a_iload_n X 1 d_Dr_sumTelling_15 rfl rfl ?_
    refine a_iload_n X 3 d_Dr_sumTelling_16 rfl rfl ?_
    refine a_callV X (a := 168) (As := [.int (nI _), .int (nI _)]) hq_168 rfl fb_Dr_closing lk_Dr_83 im_Dr_closing se_Dr_closing (c_Dr_clo hs (by omega) (by omega) hos) rfl rfl (Nat.le_of_ble_eq_true rfl) (by decide) (by decide) (Nat.le_refl _) (Nat.le_refl _) d_Dr_sumTelling_17 (fun v h1 hp => ?_)
    obtain ⟨rfl, rfl⟩ := hp
    refine a_lmul X d_Dr_sumTelling_20 ?_
    refine ab_topl (lN_mul _ _) ?_
    refine a_aload_n X 0 d_Dr_sumTelling_21 rfl rfl ?_
    refine a_get X ff_Dr_40 d_Dr_sumTelling_22 hq_168 rfl ?_
    refine a_get X ff_Dr_86 d_Dr_sumTelling_25 hq_15 rfl ?_
    refine a_iload_n X 1 d_Dr_sumTelling_28 rfl rfl ?_
    refine a_aald X d_Dr_sumTelling_29 hq_23 rfl rfl (ab_ix_nI (by omega) (by decide)) (hg_fr (by omega)) ?_
    refine a_iload_n X 3 d_Dr_sumTelling_30 rfl rfl ?_
    refine a_lald X d_Dr_sumTelling_31 (hr_fr (by omega)) rfl (ab_ix_nI (by omega) (by decide)) ?_
    refine a_lmul X d_Dr_sumTelling_32 ?_
    refine ab_topl (lN_mul _ _) ?_
    exact a_lret X d_Dr_sumTelling_33 (Nat.le_refl _) (Nat.le_refl _) ⟨by unfold sumD; rw [if_pos c7], rfl⟩
set_option maxHeartbeats 4000000 in
set_option maxRecDepth 20000 in
theorem c_Dr_tak {E : ab_E} {l : Launch} {r : hR} {s : hS} {w c : hW} {b : hB} {d : hD} {k : hK} {t : hT} {Z : List ab_C} {p x : Nat} (hs : okS s) (hx : x < 8) (hp : p < 6) (hos : d.2.1 < 4) (htd : d.2.2.2.2.1 < 2 ^ 20) : ab_Con E l y_Dr_take b_Dr_take 3 none 1 22 [.ref 169, .int (nI p), .int (nI x)] (hc r s w c b d k t ++ Z) 0 0 (fun v h1 => v = none ∧ h1 = hc r s w c b (takD s d p x) k t ++ Z) := by
  refine ab_con (own := "HiddenRows$Drawing") (ini := false) (by decide) (fun h => by cases h) rfl (Nat.le_of_ble_eq_true rfl) ?_
  intro G m X
  show ab_R E G m 3 0 0 0 [(0, .ref 169), (1, .int (nI p)), (2, .int (nI x))] [] (hc r s w c b d k t ++ Z)
  refine a_aload_n X 0 d_Dr_take_0 rfl rfl ?_
  refine a_aload_n X 0 d_Dr_take_1 rfl rfl ?_
  refine a_get X ff_Dr_25 d_Dr_take_2 hq_168 rfl ?_
  refine a_iconst X (v := nI 3) d_Dr_take_5 (by decide) ?_
  refine a_ishl X d_Dr_take_6 ?_
  refine ab_topi (sh_l (t := 3) (by omega) (by omega)) ?_
  refine a_iload_n X 2 d_Dr_take_7 rfl rfl ?_
  refine a_ior X d_Dr_take_8 ?_
  refine ab_topi (sh_or hx) ?_
  refine a_put X ff_Dr_25 d_Dr_take_9 hq_168 (Nat.le_of_ble_eq_true rfl) rfl rfl ?_
  refine ab_hp hs_d ?_
  refine a_iload_n X 2 d_Dr_take_12 rfl rfl ?_
  refine a_iconst X (v := nI 2) d_Dr_take_13 (by decide) ?_
  refine a_irem X d_Dr_take_14 (by decide) ?_
  refine ab_topi (pk_rem (by omega) (by omega) (by omega)) ?_
  refine a_if_neN X 47 (by omega) d_Dr_take_15 (by decide) (fun c15 => ?_) (fun c15 => ?_)
  ·
    exact a_vret X d_Dr_take_47 (Nat.le_refl _) (Nat.le_refl _) ⟨rfl, by unfold takD; first | (rw [if_pos c15]; rfl) | rw [if_neg (by omega)]⟩
  ·
    refine a_aload_n X 0 d_Dr_take_18 rfl rfl ?_
    refine a_dup X d_Dr_take_19 rfl ?_
    refine a_get X ff_Dr_9 d_Dr_take_20 hq_168 rfl ?_
    refine a_aload_n X 0 d_Dr_take_23 rfl rfl ?_
    refine a_iload_n X 1 d_Dr_take_24 rfl rfl ?_
    refine a_iload_n X 2 d_Dr_take_25 rfl rfl ?_
    refine a_iconst X (v := nI 2) d_Dr_take_26 (by decide) ?_
    refine a_idiv X d_Dr_take_27 (by decide) ?_
    refine ab_topi (pk_div (by omega) (by omega) (by omega)) ?_
    refine a_callV X (a := 168) (As := [.int (nI _), .int (nI _)]) hq_168 rfl fb_Dr_closing lk_Dr_83 im_Dr_closing se_Dr_closing (c_Dr_clo hs (by omega) (by omega) hos) rfl rfl (Nat.le_of_ble_eq_true rfl) (by decide) (by decide) (Nat.le_refl _) (Nat.le_refl _) d_Dr_take_28 (fun v h1 hp => ?_)
    obtain ⟨rfl, rfl⟩ := hp
    refine a_lmul X d_Dr_take_31 ?_
    refine ab_topl (lN_mul _ _) ?_
    refine a_put X ff_Dr_9 d_Dr_take_32 hq_168 (Nat.le_of_ble_eq_true rfl) rfl rfl ?_
    refine ab_hp hs_d ?_
    refine a_aload_n X 0 d_Dr_take_35 rfl rfl ?_
    refine a_iload_n X 2 d_Dr_take_36 rfl rfl ?_
    refine a_iconst X (v := nI 2) d_Dr_take_37 (by decide) ?_
    refine a_idiv X d_Dr_take_38 (by decide) ?_
    refine ab_topi (pk_div (by omega) (by omega) (by omega)) ?_
    refine a_put X ff_Dr_15 d_Dr_take_39 hq_168 (Nat.le_of_ble_eq_true rfl) rfl rfl ?_
    refine ab_hp hs_d ?_
    refine a_aload_n X 0 d_Dr_take_42 rfl rfl ?_
    refine a_iload_n X 1 d_Dr_take_43 rfl rfl ?_
    refine a_put X ff_Dr_19 d_Dr_take_44 hq_168 (Nat.le_of_ble_eq_true rfl) rfl rfl ?_
    refine ab_hp hs_d ?_
    exact a_vret X d_Dr_take_47 (Nat.le_refl _) (Nat.le_refl _) ⟨rfl, by unfold takD; first | (rw [if_pos c15]; rfl) | rw [if_neg (by omega)]⟩
set_option maxHeartbeats 4000000 in
set_option maxRecDepth 20000 in
theorem c_H_top_ok {E : ab_E} {l : Launch} {r : hR} {s : hS} {w c : hW} {b : hB} {d : hD} {k : hK} {t : hT} {Z : List ab_C} {p : Nat} (hr : okR r) (hs : okS s) (hk : w.2.2.2.2.2 = 0 ∨ w.2.2.2.2.2 = 1 ∧ okW id r s w) (hp : p < r.2.2) (hT : ∀ w1, okW id r s w1 → (if r.2.2 = 0 then 0 else sumR (fun y => w1.2.2.2.2.1 0 y * w1.2.1 0 y) 0 s.2.2) < 2 ^ 63) (hA : ∀ w1, okW id r s w1 → ∀ y0, y0 < s.2.2 → (fun y0 => sumR (fun y => w1.2.2.2.2.1 y y0 * lonR id s r.2.2 w1.1 w1.2.2.1 (p - y) y y0) (p - 2) (p + 1 - (p - 2))) y0 < 2 ^ 63) : ab_Con E l y_H_top b_H_top 4 (some .int) 6 140 [.ref 1, .int (nI p)] (hc r s w c b d k t ++ Z) 0 0 (fun v h1 => ∃ w1 : hW, okW id r s w1 ∧ w1.2.2.2.2.2 = 1 ∧ (w.2.2.2.2.2 = 1 → w1 = w) ∧ v = some (.int (if (if r.2.2 = 0 then 0 else sumR (fun y => w1.2.2.2.2.1 0 y * w1.2.1 0 y) 0 s.2.2) = 0 then -3 else nI (topR (fun y0 => sumR (fun y => w1.2.2.2.2.1 y y0 * lonR id s r.2.2 w1.1 w1.2.2.1 (p - y) y y0) (p - 2) (p + 1 - (p - 2))) (s.2.2 - 1)))) ∧ h1 = hc r s w1 c b d k t ++ Z) := by
  have hn := hr.1
  have hq := hs.1
  refine ab_con (own := "HiddenRows") (ini := false) (by decide) (fun h => by cases h) rfl (Nat.le_of_ble_eq_true rfl) ?_
  intro G m X
  show ab_R E G m 4 0 0 0 [(0, .ref 1), (1, .int (nI p))] [] (hc r s w c b d k t ++ Z)
  refine a_aload_n X 0 d_H_top_0 rfl rfl ?_
  refine a_get X ff_H_12 d_H_top_1 hq_0 rfl ?_
  refine a_iload_n X 1 d_H_top_4 rfl rfl ?_
  refine a_callV X (a := 1) (As := [.int _]) hq_1 rfl fb_Ro_has lk_H_114 im_Ro_has se_Ro_has (c_Ro_has_y hp hr.1) rfl rfl (Nat.le_of_ble_eq_true rfl) (by decide) (by decide) (Nat.le_refl _) (Nat.le_refl _) d_H_top_5 (fun v h1 hp => ?_)
  obtain ⟨rfl, rfl⟩ := hp
  refine a_if_neN X 13 (by omega) d_H_top_8 (by decide) (fun c8 => ?_) (fun c8 => ?_)
  ·
    refine a_aload_n X 0 d_H_top_13 rfl rfl ?_
    refine a_get X ff_H_28 d_H_top_14 hq_0 rfl ?_
    refine a_callV X (a := 15) (As := []) hq_15 rfl fb_Ws_whole lk_H_119 im_Ws_whole se_Ws_whole (c_who_w hr hs hk) rfl rfl (Nat.le_of_ble_eq_true rfl) (by decide) (by decide) (Nat.le_refl _) (Nat.le_refl _) d_H_top_17 (fun v h1 hpp => ?_)
    obtain ⟨w1, hok, hkn, hsm, rfl, rfl⟩ := hpp
    refine a_lconst X (v := lN 0) d_H_top_20 (by decide) ?_
    refine a_lc_gt X 28 (hT w1 hok) (by omega) d_H_top_21 d_H_top_22 (by decide) (fun c21 => ?_) (fun c21 => ?_)
    ·
      refine a_iconst X (v := nI 0) d_H_top_28 (by decide) ?_
      refine a_istore_n X 2 d_H_top_29 rfl (by decide) ?_
      refine a_iconst X (v := nI 1) d_H_top_30 (by decide) ?_
      refine a_istore_n X 3 d_H_top_31 rfl (by decide) ?_
      refine ab_sub [(0, .ref 1), (1, .int (nI p)), (2, .int (nI (topR (fun y0 => sumR (fun y => w1.2.2.2.2.1 y y0 * lonR id s r.2.2 w1.1 w1.2.2.1 (p - y) y y0) (p - 2) (p + 1 - (p - 2))) 0))), (3, .int (nI (0 + 1)))] rfl ?_
      suffices LP : ∀ (mm i : Nat), i ≤ s.2.2 - 1 → s.2.2 - i < mm → ab_R E G m 4 0 0 32 [(0, .ref 1), (1, .int (nI p)), (2, .int (nI (topR (fun y0 => sumR (fun y => w1.2.2.2.2.1 y y0 * lonR id s r.2.2 w1.1 w1.2.2.1 (p - y) y y0) (p - 2) (p + 1 - (p - 2))) i))), (3, .int (nI (i + 1)))] [] (hc r s w1 c b d k t ++ Z) from LP (s.2.2 + 1) 0 (by omega) (by omega)
      intro mm
      induction mm with
      | zero => intro i h1 h2; exfalso; omega
      | succ mm ih =>
        intro i h1 h2
        have htl := topR_le (fun y0 => sumR (fun y => w1.2.2.2.2.1 y y0 * lonR id s r.2.2 w1.1 w1.2.2.1 (p - y) y y0) (p - 2) (p + 1 - (p - 2))) i
        refine a_iload_n X 3 d_H_top_32 rfl rfl ?_
        refine a_aload_n X 0 d_H_top_33 rfl rfl ?_
        refine a_get X ff_H_19 d_H_top_34 hq_0 rfl ?_
        refine a_get X ff_H_67 d_H_top_37 hq_4 rfl ?_
        refine a_icmp_geN X 73 (by omega) (by omega) d_H_top_40 (by decide) (fun c40 => ?_) (fun c40 => ?_)
        ·
          refine a_iload_n X 2 d_H_top_73 rfl rfl ?_
          exact a_iret X d_H_top_74 (Nat.le_refl _) (Nat.le_refl _) ⟨w1, hok, hkn, hsm, by rw [if_neg (Nat.ne_of_gt c21), show i = s.2.2 - 1 by omega], rfl⟩
        ·
          refine a_aload_n X 0 d_H_top_43 rfl rfl ?_
          refine a_get X ff_H_28 d_H_top_44 hq_0 rfl ?_
          refine a_iload_n X 1 d_H_top_47 rfl rfl ?_
          refine a_iload_n X 3 d_H_top_48 rfl rfl ?_
          refine a_callV X (a := 15) (As := [.int (nI _), .int (nI _)]) hq_15 rfl fb_Ws_over lk_H_130 im_Ws_over se_Ws_over (c_ove_w hr hs (Or.inr ⟨hkn, hok⟩) hp (by omega)) rfl rfl (Nat.le_of_ble_eq_true rfl) (by decide) (by decide) (Nat.le_refl _) (Nat.le_refl _) d_H_top_49 (fun v h1 hpp => ?_)
          obtain ⟨w2, hok2, hkn2, hsm2, rfl, rfl⟩ := hpp
          obtain rfl := (hsm2 hkn).symm
          refine a_aload_n X 0 d_H_top_52 rfl rfl ?_
          refine a_get X ff_H_28 d_H_top_53 hq_0 rfl ?_
          refine a_iload_n X 1 d_H_top_56 rfl rfl ?_
          refine a_iload_n X 2 d_H_top_57 rfl rfl ?_
          refine a_callV X (a := 15) (As := [.int (nI _), .int (nI _)]) hq_15 rfl fb_Ws_over lk_H_130 im_Ws_over se_Ws_over (c_ove_w hr hs (Or.inr ⟨hkn, hok⟩) hp (by omega)) rfl rfl (Nat.le_of_ble_eq_true rfl) (by decide) (by decide) (Nat.le_refl _) (Nat.le_refl _) d_H_top_58 (fun v h1 hpp => ?_)
          obtain ⟨w2, hok2, hkn2, hsm2, rfl, rfl⟩ := hpp
          obtain rfl := (hsm2 hkn).symm
          refine a_lc_le X 67 (hA w1 hok (i + 1) (by omega)) (hA w1 hok _ (by omega)) d_H_top_61 d_H_top_62 (by decide) (fun c61 => ?_) (fun c61 => ?_)
          ·
            have hst : topR (fun y0 => sumR (fun y => w1.2.2.2.2.1 y y0 * lonR id s r.2.2 w1.1 w1.2.2.1 (p - y) y y0) (p - 2) (p + 1 - (p - 2))) (i + 1) = topR (fun y0 => sumR (fun y => w1.2.2.2.2.1 y y0 * lonR id s r.2.2 w1.1 w1.2.2.1 (p - y) y y0) (p - 2) (p + 1 - (p - 2))) i := if_neg (Nat.not_lt.mpr c61)
            refine a_incN X d_H_top_67 rfl (by decide) ?_
            refine a_goto X 32 d_H_top_70 (by decide) ?_
            have ihh := ih (i + 1) (by omega) (by omega)
            rw [hst] at ihh
            exact ab_sub _ rfl ihh
          ·
            have hst : topR (fun y0 => sumR (fun y => w1.2.2.2.2.1 y y0 * lonR id s r.2.2 w1.1 w1.2.2.1 (p - y) y y0) (p - 2) (p + 1 - (p - 2))) (i + 1) = i + 1 := if_pos c61
            refine a_iload_n X 3 d_H_top_65 rfl rfl ?_
            refine a_istore_n X 2 d_H_top_66 rfl (by decide) ?_
            refine a_incN X d_H_top_67 rfl (by decide) ?_
            refine a_goto X 32 d_H_top_70 (by decide) ?_
            have ihh := ih (i + 1) (by omega) (by omega)
            rw [hst] at ihh
            exact ab_sub _ rfl ihh
    ·
      refine a_bipush X (v := -3) d_H_top_25 (by decide) ?_
      exact a_iret X d_H_top_27 (Nat.le_refl _) (Nat.le_refl _) ⟨w1, hok, hkn, hsm, by rw [if_pos (Nat.le_zero.mp c21)], rfl⟩
  ·
    exfalso
    omega
set_option maxHeartbeats 4000000 in
set_option maxRecDepth 20000 in
theorem c_H_top_p {E : ab_E} {l : Launch} {r : hR} {s : hS} {w c : hW} {b : hB} {d : hD} {k : hK} {t : hT} {Z : List ab_C} {a : Int32} (ha : a < 0 ∨ nI r.2.2 ≤ a) : ab_Con E l y_H_top b_H_top 4 (some .int) 6 140 [.ref 1, .int a] (hc r s w c b d k t ++ Z) 0 0 (fun v h1 => v = some (.int (-1)) ∧ h1 = hc r s w c b d k t ++ Z) := by
  refine ab_con (own := "HiddenRows") (ini := false) (by decide) (fun h => by cases h) rfl (Nat.le_of_ble_eq_true rfl) ?_
  intro G m X
  show ab_R E G m 4 0 0 0 [(0, .ref 1), (1, .int a)] [] (hc r s w c b d k t ++ Z)
  refine a_aload_n X 0 d_H_top_0 rfl rfl ?_
  refine a_get X ff_H_12 d_H_top_1 hq_0 rfl ?_
  refine a_iload_n X 1 d_H_top_4 rfl rfl ?_
  refine a_callV X (a := 1) (As := [.int _]) hq_1 rfl fb_Ro_has lk_H_114 im_Ro_has se_Ro_has (c_Ro_has_n ha) rfl rfl (Nat.le_of_ble_eq_true rfl) (by decide) (by decide) (Nat.le_refl _) (Nat.le_refl _) d_H_top_5 (fun v h1 hp => ?_)
  obtain ⟨rfl, rfl⟩ := hp
  refine a_if_neN X 13 (by omega) d_H_top_8 (by decide) (fun c8 => ?_) (fun c8 => ?_)
  ·
    exfalso
    omega
  ·
    refine a_iconst X (v := -1) d_H_top_11 (by decide) ?_
    exact a_iret X d_H_top_12 (Nat.le_refl _) (Nat.le_refl _) ⟨rfl, rfl⟩
