def shoR (cu : Nat → Nat) (s : hS) (r : hR) (p st : Nat) : Nat := if r.2.1 p ≠ -1 ∧ r.2.1 p ≠ nI st then 0 else if r.1 p = -1 then cu (sumR (fun y => s.1 st (5 + y)) 0 4) else cu (s.1 st (5 + (r.1 p).toNatClampNeg))
theorem sumR_le {g : Nat → Nat} {a z : Nat} (h : ∀ i, g i ≤ z) : ∀ m, sumR g a m ≤ m * z
  | 0 => Nat.zero_le _
  | m + 1 => by
    have h1 := sumR_le (a := a) h m
    have h2 := h (a + m)
    show sumR g a m + g (a + m) ≤ (m + 1) * z
    rw [Nat.succ_mul]
    omega
set_option maxHeartbeats 4000000 in
set_option maxRecDepth 20000 in
theorem c_lon_w {E : ab_E} {l : Launch} {r : hR} {s : hS} {w c : hW} {b : hB} {d : hD} {k : hK} {t : hT} {Z : List ab_C} (hw : ∀ i j, s.1 i j ≤ 4) {x bg st : Nat} (hn : r.2.2 ≤ 6) (hx : x ≤ 3) (hbg : bg ≤ r.2.2) (hst : st < 4) : ab_Con E l y_Ws_longerThan b_Ws_longerThan 7 (some .long) 2 47 [.ref 16, .int (nI x), .int (nI bg), .int (nI st)] (hc r s w c b d k t ++ Z) 0 0 (fun v h1 => v = some (.long (lN (lonR id s r.2.2 w.1 w.2.2.1 x bg st))) ∧ h1 = hc r s w c b d k t ++ Z) := by
  refine ab_con (own := "HiddenRows$WaySums") (ini := false) (by decide) (fun h => by cases h) rfl (Nat.le_of_ble_eq_true rfl) ?_
  intro G m X
  show ab_R E G m 7 0 0 0 [(0, .ref 16), (1, .int (nI x)), (2, .int (nI bg)), (3, .int (nI st))] [] (hc r s w c b d k t ++ Z)
  refine a_lconst X (v := lN 0) d_Ws_longerThan_0 (by decide) ?_
  refine a_lstore X d_Ws_longerThan_1 (by decide) ?_
  refine a_iload_n X 1 d_Ws_longerThan_3 rfl rfl ?_
  refine a_iconst X (v := nI 1) d_Ws_longerThan_4 (by decide) ?_
  refine a_iadd X d_Ws_longerThan_5 ?_
  refine ab_topi (nI_add _ _) ?_
  refine a_istore X d_Ws_longerThan_6 (by decide) ?_
  refine ab_sub [(0, .ref 16), (1, .int (nI x)), (2, .int (nI bg)), (3, .int (nI st)), (4, .long (lN (sumR (fun y => segR id s w.1 bg y st * w.2.2.1 (bg + y) st) (x + 1) 0))), (6, .int (nI (x + 1 + 0)))] rfl ?_
  suffices LP : ∀ (mm i : Nat), i ≤ (min 3 (r.2.2 - bg) - x) → (min 3 (r.2.2 - bg) - x) - i < mm → ab_R E G m 7 0 0 8 [(0, .ref 16), (1, .int (nI x)), (2, .int (nI bg)), (3, .int (nI st)), (4, .long (lN (sumR (fun y => segR id s w.1 bg y st * w.2.2.1 (bg + y) st) (x + 1) i))), (6, .int (nI (x + 1 + i)))] [] (hc r s w c b d k t ++ Z) from LP ((min 3 (r.2.2 - bg) - x) + 1) 0 (by omega) (by omega)
  intro mm
  induction mm with
  | zero => intro i h1 h2; exfalso; omega
  | succ mm ih =>
    intro i h1 h2
    refine a_iload X d_Ws_longerThan_8 rfl ?_
    refine a_iconst X (v := nI 3) d_Ws_longerThan_10 (by decide) ?_
    refine a_icmp_gtN X 59 (by omega) (by omega) d_Ws_longerThan_11 (by decide) (fun c11 => ?_) (fun c11 => ?_)
    ·
      refine a_lload X d_Ws_longerThan_59 rfl ?_
      exact a_lret X d_Ws_longerThan_61 (Nat.le_refl _) (Nat.le_refl _) ⟨by rw [show i = (min 3 (r.2.2 - bg) - x) by omega]; rfl, rfl⟩
    ·
      refine a_iload_n X 2 d_Ws_longerThan_14 rfl rfl ?_
      refine a_iload X d_Ws_longerThan_15 rfl ?_
      refine a_iadd X d_Ws_longerThan_17 ?_
      refine ab_topi (nI_add _ _) ?_
      refine a_aload_n X 0 d_Ws_longerThan_18 rfl rfl ?_
      refine a_get X ff_Ws_32 d_Ws_longerThan_19 hq_15 rfl ?_
      refine a_get X ff_Ws_47 d_Ws_longerThan_22 hq_1 rfl ?_
      refine a_icmp_gtN X 59 (by omega) (by omega) d_Ws_longerThan_25 (by decide) (fun c25 => ?_) (fun c25 => ?_)
      ·
        refine a_lload X d_Ws_longerThan_59 rfl ?_
        exact a_lret X d_Ws_longerThan_61 (Nat.le_refl _) (Nat.le_refl _) ⟨by rw [show i = (min 3 (r.2.2 - bg) - x) by omega]; rfl, rfl⟩
      ·
        refine a_lload X d_Ws_longerThan_28 rfl ?_
        refine a_aload_n X 0 d_Ws_longerThan_30 rfl rfl ?_
        refine a_iload_n X 2 d_Ws_longerThan_31 rfl rfl ?_
        refine a_iload X d_Ws_longerThan_32 rfl ?_
        refine a_iload_n X 3 d_Ws_longerThan_34 rfl rfl ?_
        refine a_callV X (a := 15) (As := [.int (nI _), .int (nI _), .int (nI _)]) hq_15 rfl fb_Ws_segment lk_Ws_75 im_Ws_segment se_Ws_segment (c_seg_w hw (by omega) (by omega) (by omega) (by omega)) rfl rfl (Nat.le_of_ble_eq_true rfl) (by decide) (by decide) (Nat.le_refl _) (Nat.le_refl _) d_Ws_longerThan_35 (fun v h1 hp => ?_)
        obtain ⟨rfl, rfl⟩ := hp
        refine a_aload_n X 0 d_Ws_longerThan_38 rfl rfl ?_
        refine a_get X ff_Ws_19 d_Ws_longerThan_39 hq_15 rfl ?_
        refine a_iload_n X 2 d_Ws_longerThan_42 rfl rfl ?_
        refine a_iload X d_Ws_longerThan_43 rfl ?_
        refine a_iadd X d_Ws_longerThan_45 ?_
        refine ab_topi (nI_add _ _) ?_
        refine a_aald X d_Ws_longerThan_46 hq_30 rfl rfl (ab_ix_nI (by omega) (by decide)) (hg_le (by omega)) ?_
        refine a_iload_n X 3 d_Ws_longerThan_47 rfl rfl ?_
        refine a_lald X d_Ws_longerThan_48 (hr_le (by omega)) rfl (ab_ix_nI (by omega) (by decide)) ?_
        refine a_lmul X d_Ws_longerThan_49 ?_
        refine ab_topl (lN_mul _ _) ?_
        refine a_ladd X d_Ws_longerThan_50 ?_
        refine ab_topl (lN_add _ _) ?_
        refine a_lstore X d_Ws_longerThan_51 (by decide) ?_
        refine a_incN X d_Ws_longerThan_53 rfl (by decide) ?_
        refine a_goto X 8 d_Ws_longerThan_56 (by decide) ?_
        refine ab_sub [(0, .ref 16), (1, .int (nI x)), (2, .int (nI bg)), (3, .int (nI st)), (4, .long (lN (sumR (fun y => segR id s w.1 bg y st * w.2.2.1 (bg + y) st) (x + 1) (i + 1)))), (6, .int (nI (x + 1 + (i + 1))))] rfl ?_
        exact ih (i + 1) (by omega) (by omega)
set_option maxHeartbeats 4000000 in
set_option maxRecDepth 20000 in
theorem c_out_w {E : ab_E} {l : Launch} {r : hR} {s : hS} {w c : hW} {b : hB} {d : hD} {k : hK} {t : hT} {Z : List ab_C} (hm : ∀ i j, s.2.1 i j ≤ 4) {p st : Nat} (hq : s.2.2 ≤ 4) (hp : p < 6) (hst : st < 4) : ab_Con E l y_Ws_movedOutOf b_Ws_movedOutOf 6 (some .long) 1 21 [.ref 16, .int (nI p), .int (nI st)] (hc r s w c b d k t ++ Z) 0 0 (fun v h1 => v = some (.long (lN (outR id s w.2.1 p st))) ∧ h1 = hc r s w c b d k t ++ Z) := by
  refine ab_con (own := "HiddenRows$WaySums") (ini := false) (by decide) (fun h => by cases h) rfl (Nat.le_of_ble_eq_true rfl) ?_
  intro G m X
  show ab_R E G m 6 0 0 0 [(0, .ref 16), (1, .int (nI p)), (2, .int (nI st))] [] (hc r s w c b d k t ++ Z)
  refine a_lconst X (v := lN 0) d_Ws_movedOutOf_0 (by decide) ?_
  refine a_lstore_n X 3 d_Ws_movedOutOf_1 rfl (by decide) ?_
  refine a_iconst X (v := nI 0) d_Ws_movedOutOf_2 (by decide) ?_
  refine a_istore X d_Ws_movedOutOf_3 (by decide) ?_
  refine ab_sub [(0, .ref 16), (1, .int (nI p)), (2, .int (nI st)), (3, .long (lN (sumR (fun y => id (s.2.1 st y) * w.2.1 p y) 0 0))), (5, .int (nI 0))] rfl ?_
  suffices LP : ∀ (mm i : Nat), i ≤ s.2.2 → s.2.2 - i < mm → ab_R E G m 6 0 0 5 [(0, .ref 16), (1, .int (nI p)), (2, .int (nI st)), (3, .long (lN (sumR (fun y => id (s.2.1 st y) * w.2.1 p y) 0 i))), (5, .int (nI i))] [] (hc r s w c b d k t ++ Z) from LP (s.2.2 + 1) 0 (by omega) (by omega)
  intro mm
  induction mm with
  | zero => intro i h1 h2; exfalso; omega
  | succ mm ih =>
    intro i h1 h2
    refine a_iload X d_Ws_movedOutOf_5 rfl ?_
    refine a_aload_n X 0 d_Ws_movedOutOf_7 rfl rfl ?_
    refine a_get X ff_Ws_36 d_Ws_movedOutOf_8 hq_15 rfl ?_
    refine a_get X ff_Ws_52 d_Ws_movedOutOf_11 hq_4 rfl ?_
    refine a_icmp_geN X 52 (by omega) (by omega) d_Ws_movedOutOf_14 (by decide) (fun c14 => ?_) (fun c14 => ?_)
    ·
      refine a_lload_n X 3 d_Ws_movedOutOf_52 rfl rfl ?_
      exact a_lret X d_Ws_movedOutOf_53 (Nat.le_refl _) (Nat.le_refl _) ⟨by rw [show i = s.2.2 by omega]; rfl, rfl⟩
    ·
      refine a_lload_n X 3 d_Ws_movedOutOf_17 rfl rfl ?_
      refine a_aload_n X 0 d_Ws_movedOutOf_18 rfl rfl ?_
      refine a_aload_n X 0 d_Ws_movedOutOf_19 rfl rfl ?_
      refine a_get X ff_Ws_36 d_Ws_movedOutOf_20 hq_15 rfl ?_
      refine a_get X ff_Ws_67 d_Ws_movedOutOf_23 hq_4 rfl ?_
      refine a_iload_n X 2 d_Ws_movedOutOf_26 rfl rfl ?_
      refine a_aald X d_Ws_movedOutOf_27 hq_10 rfl rfl (ab_ix_nI (by omega) (by decide)) (hg_mv (by omega)) ?_
      refine a_iload X d_Ws_movedOutOf_28 rfl ?_
      refine a_iald X d_Ws_movedOutOf_30 (hr_mv (by omega)) rfl (ab_ix_nI (by omega) (by decide)) ?_
      refine a_callV X (a := 15) (As := [.int (nI _)]) hq_15 rfl fb_Ws_cut lk_Ws_71 im_Ws_cut se_Ws_cut (c_cut_w (by have := hm st i; omega)) rfl rfl (Nat.le_of_ble_eq_true rfl) (by decide) (by decide) (Nat.le_refl _) (Nat.le_refl _) d_Ws_movedOutOf_31 (fun v h1 hp => ?_)
      obtain ⟨rfl, rfl⟩ := hp
      refine a_aload_n X 0 d_Ws_movedOutOf_34 rfl rfl ?_
      refine a_get X ff_Ws_16 d_Ws_movedOutOf_35 hq_15 rfl ?_
      refine a_iload_n X 1 d_Ws_movedOutOf_38 rfl rfl ?_
      refine a_aald X d_Ws_movedOutOf_39 hq_23 rfl rfl (ab_ix_nI (by omega) (by decide)) (hg_fr (by omega)) ?_
      refine a_iload X d_Ws_movedOutOf_40 rfl ?_
      refine a_lald X d_Ws_movedOutOf_42 (hr_fr (by omega)) rfl (ab_ix_nI (by omega) (by decide)) ?_
      refine a_lmul X d_Ws_movedOutOf_43 ?_
      refine ab_topl (lN_mul _ _) ?_
      refine a_ladd X d_Ws_movedOutOf_44 ?_
      refine ab_topl (lN_add _ _) ?_
      refine ab_topl (congrArg lN (show _ = sumR (fun y => id (s.2.1 st y) * w.2.1 p y) 0 (i + 1) from by show _ = sumR _ 0 i + _ * _; rw [Nat.zero_add])) ?_
      refine a_lstore_n X 3 d_Ws_movedOutOf_45 rfl (by decide) ?_
      refine a_incN X d_Ws_movedOutOf_46 rfl (by decide) ?_
      refine a_goto X 5 d_Ws_movedOutOf_49 (by decide) ?_
      refine ab_sub [(0, .ref 16), (1, .int (nI p)), (2, .int (nI st)), (3, .long (lN (sumR (fun y => id (s.2.1 st y) * w.2.1 p y) 0 (i + 1)))), (5, .int (nI (i + 1)))] rfl ?_
      exact ih (i + 1) (by omega) (by omega)
set_option maxHeartbeats 4000000 in
set_option maxRecDepth 20000 in
theorem c_int_w {E : ab_E} {l : Launch} {r : hR} {s : hS} {w c : hW} {b : hB} {d : hD} {k : hK} {t : hT} {Z : List ab_C} (hm : ∀ i j, s.2.1 i j ≤ 4) {p st : Nat} (hq : s.2.2 ≤ 4) (hp : p < 7) (hst : st < 4) : ab_Con E l y_Ws_movedInto b_Ws_movedInto 6 (some .long) 1 21 [.ref 16, .int (nI p), .int (nI st)] (hc r s w c b d k t ++ Z) 0 0 (fun v h1 => v = some (.long (lN (intR id s w.2.2.2.1 p st))) ∧ h1 = hc r s w c b d k t ++ Z) := by
  refine ab_con (own := "HiddenRows$WaySums") (ini := false) (by decide) (fun h => by cases h) rfl (Nat.le_of_ble_eq_true rfl) ?_
  intro G m X
  show ab_R E G m 6 0 0 0 [(0, .ref 16), (1, .int (nI p)), (2, .int (nI st))] [] (hc r s w c b d k t ++ Z)
  refine a_lconst X (v := lN 0) d_Ws_movedInto_0 (by decide) ?_
  refine a_lstore_n X 3 d_Ws_movedInto_1 rfl (by decide) ?_
  refine a_iconst X (v := nI 0) d_Ws_movedInto_2 (by decide) ?_
  refine a_istore X d_Ws_movedInto_3 (by decide) ?_
  refine ab_sub [(0, .ref 16), (1, .int (nI p)), (2, .int (nI st)), (3, .long (lN (sumR (fun y => w.2.2.2.1 p y * id (s.2.1 y st)) 0 0))), (5, .int (nI 0))] rfl ?_
  suffices LP : ∀ (mm i : Nat), i ≤ s.2.2 → s.2.2 - i < mm → ab_R E G m 6 0 0 5 [(0, .ref 16), (1, .int (nI p)), (2, .int (nI st)), (3, .long (lN (sumR (fun y => w.2.2.2.1 p y * id (s.2.1 y st)) 0 i))), (5, .int (nI i))] [] (hc r s w c b d k t ++ Z) from LP (s.2.2 + 1) 0 (by omega) (by omega)
  intro mm
  induction mm with
  | zero => intro i h1 h2; exfalso; omega
  | succ mm ih =>
    intro i h1 h2
    refine a_iload X d_Ws_movedInto_5 rfl ?_
    refine a_aload_n X 0 d_Ws_movedInto_7 rfl rfl ?_
    refine a_get X ff_Ws_36 d_Ws_movedInto_8 hq_15 rfl ?_
    refine a_get X ff_Ws_52 d_Ws_movedInto_11 hq_4 rfl ?_
    refine a_icmp_geN X 52 (by omega) (by omega) d_Ws_movedInto_14 (by decide) (fun c14 => ?_) (fun c14 => ?_)
    ·
      refine a_lload_n X 3 d_Ws_movedInto_52 rfl rfl ?_
      exact a_lret X d_Ws_movedInto_53 (Nat.le_refl _) (Nat.le_refl _) ⟨by rw [show i = s.2.2 by omega]; rfl, rfl⟩
    ·
      refine a_lload_n X 3 d_Ws_movedInto_17 rfl rfl ?_
      refine a_aload_n X 0 d_Ws_movedInto_18 rfl rfl ?_
      refine a_get X ff_Ws_22 d_Ws_movedInto_19 hq_15 rfl ?_
      refine a_iload_n X 1 d_Ws_movedInto_22 rfl rfl ?_
      refine a_aald X d_Ws_movedInto_23 hq_38 rfl rfl (ab_ix_nI (by omega) (by decide)) (hg_up (by omega)) ?_
      refine a_iload X d_Ws_movedInto_24 rfl ?_
      refine a_lald X d_Ws_movedInto_26 (hr_up (by omega)) rfl (ab_ix_nI (by omega) (by decide)) ?_
      refine a_aload_n X 0 d_Ws_movedInto_27 rfl rfl ?_
      refine a_aload_n X 0 d_Ws_movedInto_28 rfl rfl ?_
      refine a_get X ff_Ws_36 d_Ws_movedInto_29 hq_15 rfl ?_
      refine a_get X ff_Ws_67 d_Ws_movedInto_32 hq_4 rfl ?_
      refine a_iload X d_Ws_movedInto_35 rfl ?_
      refine a_aald X d_Ws_movedInto_37 hq_10 rfl rfl (ab_ix_nI (by omega) (by decide)) (hg_mv (by omega)) ?_
      refine a_iload_n X 2 d_Ws_movedInto_38 rfl rfl ?_
      refine a_iald X d_Ws_movedInto_39 (hr_mv (by omega)) rfl (ab_ix_nI (by omega) (by decide)) ?_
      refine a_callV X (a := 15) (As := [.int (nI _)]) hq_15 rfl fb_Ws_cut lk_Ws_71 im_Ws_cut se_Ws_cut (c_cut_w (by have := hm i st; omega)) rfl rfl (Nat.le_of_ble_eq_true rfl) (by decide) (by decide) (Nat.le_refl _) (Nat.le_refl _) d_Ws_movedInto_40 (fun v h1 hp => ?_)
      obtain ⟨rfl, rfl⟩ := hp
      refine a_lmul X d_Ws_movedInto_43 ?_
      refine ab_topl (lN_mul _ _) ?_
      refine a_ladd X d_Ws_movedInto_44 ?_
      refine ab_topl (lN_add _ _) ?_
      refine ab_topl (congrArg lN (show _ = sumR (fun y => w.2.2.2.1 p y * id (s.2.1 y st)) 0 (i + 1) from by show _ = sumR _ 0 i + _ * _; rw [Nat.zero_add])) ?_
      refine a_lstore_n X 3 d_Ws_movedInto_45 rfl (by decide) ?_
      refine a_incN X d_Ws_movedInto_46 rfl (by decide) ?_
      refine a_goto X 5 d_Ws_movedInto_49 (by decide) ?_
      refine ab_sub [(0, .ref 16), (1, .int (nI p)), (2, .int (nI st)), (3, .long (lN (sumR (fun y => w.2.2.2.1 p y * id (s.2.1 y st)) 0 (i + 1)))), (5, .int (nI (i + 1)))] rfl ?_
      exact ih (i + 1) (by omega) (by omega)
set_option maxHeartbeats 4000000 in
set_option maxRecDepth 20000 in
theorem c_end_w {E : ab_E} {l : Launch} {r : hR} {s : hS} {w c : hW} {b : hB} {d : hD} {k : hK} {t : hT} {Z : List ab_C} (hw : ∀ i j, s.1 i j ≤ 4) {e st : Nat} (he : e ≤ 6) (hst : st < 4) : ab_Con E l y_Ws_endedBefore b_Ws_endedBefore 6 (some .long) 2 47 [.ref 16, .int (nI e), .int (nI st)] (hc r s w c b d k t ++ Z) 0 0 (fun v h1 => v = some (.long (lN (endR id s w.1 w.2.2.2.2.1 e st))) ∧ h1 = hc r s w c b d k t ++ Z) := by
  refine ab_con (own := "HiddenRows$WaySums") (ini := false) (by decide) (fun h => by cases h) rfl (Nat.le_of_ble_eq_true rfl) ?_
  intro G m X
  show ab_R E G m 6 0 0 0 [(0, .ref 16), (1, .int (nI e)), (2, .int (nI st))] [] (hc r s w c b d k t ++ Z)
  refine a_lconst X (v := lN 0) d_Ws_endedBefore_0 (by decide) ?_
  refine a_lstore_n X 3 d_Ws_endedBefore_1 rfl (by decide) ?_
  refine a_iconst X (v := nI 1) d_Ws_endedBefore_2 (by decide) ?_
  refine a_istore X d_Ws_endedBefore_3 (by decide) ?_
  refine ab_sub [(0, .ref 16), (1, .int (nI e)), (2, .int (nI st)), (3, .long (lN (sumR (fun y => w.2.2.2.2.1 (e - y) st * segR id s w.1 (e - y) y st) 1 0))), (5, .int (nI (1 + 0)))] rfl ?_
  suffices LP : ∀ (mm i : Nat), i ≤ (min 3 e) → (min 3 e) - i < mm → ab_R E G m 6 0 0 5 [(0, .ref 16), (1, .int (nI e)), (2, .int (nI st)), (3, .long (lN (sumR (fun y => w.2.2.2.2.1 (e - y) st * segR id s w.1 (e - y) y st) 1 i))), (5, .int (nI (1 + i)))] [] (hc r s w c b d k t ++ Z) from LP ((min 3 e) + 1) 0 (by omega) (by omega)
  intro mm
  induction mm with
  | zero => intro i h1 h2; exfalso; omega
  | succ mm ih =>
    intro i h1 h2
    refine a_iload X d_Ws_endedBefore_5 rfl ?_
    refine a_iconst X (v := nI 3) d_Ws_endedBefore_7 (by decide) ?_
    refine a_icmp_gtN X 49 (by omega) (by omega) d_Ws_endedBefore_8 (by decide) (fun c8 => ?_) (fun c8 => ?_)
    ·
      refine a_lload_n X 3 d_Ws_endedBefore_49 rfl rfl ?_
      exact a_lret X d_Ws_endedBefore_50 (Nat.le_refl _) (Nat.le_refl _) ⟨by rw [show i = min 3 e by omega]; rfl, rfl⟩
    ·
      refine a_iload X d_Ws_endedBefore_11 rfl ?_
      refine a_iload_n X 1 d_Ws_endedBefore_13 rfl rfl ?_
      refine a_icmp_gtN X 49 (by omega) (by omega) d_Ws_endedBefore_14 (by decide) (fun c14 => ?_) (fun c14 => ?_)
      ·
        refine a_lload_n X 3 d_Ws_endedBefore_49 rfl rfl ?_
        exact a_lret X d_Ws_endedBefore_50 (Nat.le_refl _) (Nat.le_refl _) ⟨by rw [show i = min 3 e by omega]; rfl, rfl⟩
      ·
        refine a_lload_n X 3 d_Ws_endedBefore_17 rfl rfl ?_
        refine a_aload_n X 0 d_Ws_endedBefore_18 rfl rfl ?_
        refine a_get X ff_Ws_25 d_Ws_endedBefore_19 hq_15 rfl ?_
        refine a_iload_n X 1 d_Ws_endedBefore_22 rfl rfl ?_
        refine a_iload X d_Ws_endedBefore_23 rfl ?_
        refine a_isub X d_Ws_endedBefore_25 ?_
        refine ab_topi (pk_sub (by omega)) ?_
        refine a_aald X d_Ws_endedBefore_26 hq_46 rfl rfl (ab_ix_nI (by omega) (by decide)) (hg_en (by omega)) ?_
        refine a_iload_n X 2 d_Ws_endedBefore_27 rfl rfl ?_
        refine a_lald X d_Ws_endedBefore_28 (hr_en (by omega)) rfl (ab_ix_nI (by omega) (by decide)) ?_
        refine a_aload_n X 0 d_Ws_endedBefore_29 rfl rfl ?_
        refine a_iload_n X 1 d_Ws_endedBefore_30 rfl rfl ?_
        refine a_iload X d_Ws_endedBefore_31 rfl ?_
        refine a_isub X d_Ws_endedBefore_33 ?_
        refine ab_topi (pk_sub (by omega)) ?_
        refine a_iload X d_Ws_endedBefore_34 rfl ?_
        refine a_iload_n X 2 d_Ws_endedBefore_36 rfl rfl ?_
        refine a_callV X (a := 15) (As := [.int (nI _), .int (nI _), .int (nI _)]) hq_15 rfl fb_Ws_segment lk_Ws_75 im_Ws_segment se_Ws_segment (c_seg_w hw (by omega) (by omega) (by omega) (by omega)) rfl rfl (Nat.le_of_ble_eq_true rfl) (by decide) (by decide) (Nat.le_refl _) (Nat.le_refl _) d_Ws_endedBefore_37 (fun v h1 hp => ?_)
        obtain ⟨rfl, rfl⟩ := hp
        refine a_lmul X d_Ws_endedBefore_40 ?_
        refine ab_topl (lN_mul _ _) ?_
        refine a_ladd X d_Ws_endedBefore_41 ?_
        refine ab_topl (lN_add _ _) ?_
        refine a_lstore_n X 3 d_Ws_endedBefore_42 rfl (by decide) ?_
        refine a_incN X d_Ws_endedBefore_43 rfl (by decide) ?_
        refine a_goto X 5 d_Ws_endedBefore_46 (by decide) ?_
        refine ab_sub [(0, .ref 16), (1, .int (nI e)), (2, .int (nI st)), (3, .long (lN (sumR (fun y => w.2.2.2.2.1 (e - y) st * segR id s w.1 (e - y) y st) 1 (i + 1)))), (5, .int (nI (1 + (i + 1))))] rfl ?_
        exact ih (i + 1) (by omega) (by omega)
set_option maxHeartbeats 4000000 in
set_option maxRecDepth 20000 in
theorem c_sho_w {E : ab_E} {l : Launch} {r : hR} {s : hS} {w c : hW} {b : hB} {d : hD} {k : hK} {t : hT} {Z : List ab_C} (hw : ∀ i j, s.1 i j ≤ 4) {p st : Nat} (hp : p < 6) (hst : st < 4) (hs : ∀ i, i < 6 → r.1 i = -1 ∨ ∃ z, z < 4 ∧ r.1 i = nI z) : ab_Con E l y_Ws_showOf b_Ws_showOf 7 (some .long) 1 21 [.ref 16, .int (nI p), .int (nI st)] (hc r s w c b d k t ++ Z) 0 0 (fun v h1 => v = some (.long (lN (shoR id s r p st))) ∧ h1 = hc r s w c b d k t ++ Z) := by
  refine ab_con (own := "HiddenRows$WaySums") (ini := false) (by decide) (fun h => by cases h) rfl (Nat.le_of_ble_eq_true rfl) ?_
  intro G m X
  show ab_R E G m 7 0 0 0 [(0, .ref 16), (1, .int (nI p)), (2, .int (nI st))] [] (hc r s w c b d k t ++ Z)
  refine a_aload_n X 0 d_Ws_showOf_0 rfl rfl ?_
  refine a_get X ff_Ws_32 d_Ws_showOf_1 hq_15 rfl ?_
  refine a_get X ff_Ws_94 d_Ws_showOf_4 hq_1 rfl ?_
  refine a_iload_n X 1 d_Ws_showOf_7 rfl rfl ?_
  refine a_iald X d_Ws_showOf_8 hq_3 rfl (ab_ix_nI (by omega) (by decide)) ?_
  refine a_istore_n X 3 d_Ws_showOf_9 rfl (by decide) ?_
  refine a_iload_n X 3 d_Ws_showOf_10 rfl rfl ?_
  refine a_iconst X (v := -1) d_Ws_showOf_11 (by decide) ?_
  refine a_icmp_eq X 22 d_Ws_showOf_12 (by decide) (fun c12 => ?_) (fun c12 => ?_)
  ·
    have hno : ¬ (r.2.1 p ≠ -1 ∧ r.2.1 p ≠ nI st) := fun q => q.1 c12
    refine a_aload_n X 0 d_Ws_showOf_22 rfl rfl ?_
    refine a_get X ff_Ws_32 d_Ws_showOf_23 hq_15 rfl ?_
    refine a_get X ff_Ws_98 d_Ws_showOf_26 hq_1 rfl ?_
    refine a_iload_n X 1 d_Ws_showOf_29 rfl rfl ?_
    refine a_iald X d_Ws_showOf_30 hq_2 rfl (ab_ix_nI (by omega) (by decide)) ?_
    refine a_istore X d_Ws_showOf_31 (by decide) ?_
    refine a_iload X d_Ws_showOf_33 rfl ?_
    refine a_iconst X (v := -1) d_Ws_showOf_35 (by decide) ?_
    refine a_icmp_eq X 58 d_Ws_showOf_36 (by decide) (fun c36 => ?_) (fun c36 => ?_)
    ·
      refine a_iconst X (v := nI 0) d_Ws_showOf_58 (by decide) ?_
      refine a_istore X d_Ws_showOf_59 (by decide) ?_
      refine a_iconst X (v := nI 0) d_Ws_showOf_61 (by decide) ?_
      refine a_istore X d_Ws_showOf_62 (by decide) ?_
      refine ab_sub [(0, .ref 16), (1, .int (nI p)), (2, .int (nI st)), (5, .int (nI (sumR (fun y => s.1 st (5 + y)) 0 0))), (6, .int (nI 0))] rfl ?_
      suffices LP : ∀ (mm i : Nat), i ≤ 4 → 4 - i < mm → ab_R E G m 7 0 0 64 [(0, .ref 16), (1, .int (nI p)), (2, .int (nI st)), (5, .int (nI (sumR (fun y => s.1 st (5 + y)) 0 i))), (6, .int (nI i))] [] (hc r s w c b d k t ++ Z) from LP 5 0 (by omega) (by omega)
      intro mm
      induction mm with
      | zero => intro i h1 h2; exfalso; omega
      | succ mm ih =>
        intro i h1 h2
        refine a_iload X d_Ws_showOf_64 rfl ?_
        refine a_iconst X (v := nI 4) d_Ws_showOf_66 (by decide) ?_
        refine a_icmp_geN X 95 (by omega) (by omega) d_Ws_showOf_67 (by decide) (fun c67 => ?_) (fun c67 => ?_)
        ·
          refine a_aload_n X 0 d_Ws_showOf_95 rfl rfl ?_
          refine a_iload X d_Ws_showOf_96 rfl ?_
          refine a_callV X (a := 15) (As := [.int (nI _)]) hq_15 rfl fb_Ws_cut lk_Ws_71 im_Ws_cut se_Ws_cut (c_cut_w (by have := sumR_le (g := (fun y => s.1 st (5 + y))) (a := 0) (fun y => hw st (5 + y)) i; omega)) rfl rfl (Nat.le_of_ble_eq_true rfl) (by decide) (by decide) (Nat.le_refl _) (Nat.le_refl _) d_Ws_showOf_98 (fun v h1 hp => ?_)
          obtain ⟨rfl, rfl⟩ := hp
          exact a_lret X d_Ws_showOf_101 (Nat.le_refl _) (Nat.le_refl _) ⟨by unfold shoR; rw [if_neg hno, if_pos c36, show i = 4 by omega], rfl⟩
        ·
          refine a_iload X d_Ws_showOf_70 rfl ?_
          refine a_aload_n X 0 d_Ws_showOf_72 rfl rfl ?_
          refine a_get X ff_Ws_36 d_Ws_showOf_73 hq_15 rfl ?_
          refine a_get X ff_Ws_78 d_Ws_showOf_76 hq_4 rfl ?_
          refine a_iload_n X 2 d_Ws_showOf_79 rfl rfl ?_
          refine a_aald X d_Ws_showOf_80 hq_5 rfl rfl (ab_ix_nI (by omega) (by decide)) (hg_wt (by omega)) ?_
          refine a_iconst X (v := nI 5) d_Ws_showOf_81 (by decide) ?_
          refine a_iload X d_Ws_showOf_82 rfl ?_
          refine a_iadd X d_Ws_showOf_84 ?_
          refine ab_topi (nI_add _ _) ?_
          refine a_iald X d_Ws_showOf_85 (hr_wt (by omega)) rfl (ab_ix_nI (by omega) (by decide)) ?_
          refine a_iadd X d_Ws_showOf_86 ?_
          refine ab_topi (nI_add _ _) ?_
          refine ab_topi (congrArg nI (show _ = sumR (fun y => s.1 st (5 + y)) 0 (i + 1) from by show _ = sumR _ 0 i + s.1 st (5 + (0 + i)); rw [Nat.zero_add])) ?_
          refine a_istore X d_Ws_showOf_87 (by decide) ?_
          refine a_incN X d_Ws_showOf_89 rfl (by decide) ?_
          refine a_goto X 64 d_Ws_showOf_92 (by decide) ?_
          refine ab_sub [(0, .ref 16), (1, .int (nI p)), (2, .int (nI st)), (5, .int (nI (sumR (fun y => s.1 st (5 + y)) 0 (i + 1)))), (6, .int (nI (i + 1)))] rfl ?_
          exact ih (i + 1) (by omega) (by omega)
    ·
      obtain ⟨z, hz, hsg⟩ : ∃ z, z < 4 ∧ r.1 p = nI z := (hs p hp).resolve_left c36
      refine a_aload_n X 0 d_Ws_showOf_39 rfl rfl ?_
      refine a_aload_n X 0 d_Ws_showOf_40 rfl rfl ?_
      refine a_get X ff_Ws_36 d_Ws_showOf_41 hq_15 rfl ?_
      refine a_get X ff_Ws_78 d_Ws_showOf_44 hq_4 rfl ?_
      refine a_iload_n X 2 d_Ws_showOf_47 rfl rfl ?_
      refine a_aald X d_Ws_showOf_48 hq_5 rfl rfl (ab_ix_nI (by omega) (by decide)) (hg_wt (by omega)) ?_
      refine a_iconst X (v := nI 5) d_Ws_showOf_49 (by decide) ?_
      refine a_iload X d_Ws_showOf_50 rfl ?_
      refine a_iadd X d_Ws_showOf_52 ?_
      rw [hsg]
      refine ab_topi (nI_add _ _) ?_
      refine a_iald X d_Ws_showOf_53 (hr_wt (by omega)) rfl (ab_ix_nI (by omega) (by decide)) ?_
      refine a_callV X (a := 15) (As := [.int (nI _)]) hq_15 rfl fb_Ws_cut lk_Ws_71 im_Ws_cut se_Ws_cut (c_cut_w (by have := hw st (5 + z); omega)) rfl rfl (Nat.le_of_ble_eq_true rfl) (by decide) (by decide) (Nat.le_refl _) (Nat.le_refl _) d_Ws_showOf_54 (fun v h1 hp => ?_)
      obtain ⟨rfl, rfl⟩ := hp
      exact a_lret X d_Ws_showOf_57 (Nat.le_refl _) (Nat.le_refl _) ⟨by unfold shoR; rw [if_neg hno, if_neg c36, hsg, nI_clamp (by omega)], rfl⟩
  ·
    refine a_iload_n X 3 d_Ws_showOf_15 rfl rfl ?_
    refine a_iload_n X 2 d_Ws_showOf_16 rfl rfl ?_
    refine a_icmp_eq X 22 d_Ws_showOf_17 (by decide) (fun c17 => ?_) (fun c17 => ?_)
    ·
      have hno : ¬ (r.2.1 p ≠ -1 ∧ r.2.1 p ≠ nI st) := fun q => q.2 c17
      refine a_aload_n X 0 d_Ws_showOf_22 rfl rfl ?_
      refine a_get X ff_Ws_32 d_Ws_showOf_23 hq_15 rfl ?_
      refine a_get X ff_Ws_98 d_Ws_showOf_26 hq_1 rfl ?_
      refine a_iload_n X 1 d_Ws_showOf_29 rfl rfl ?_
      refine a_iald X d_Ws_showOf_30 hq_2 rfl (ab_ix_nI (by omega) (by decide)) ?_
      refine a_istore X d_Ws_showOf_31 (by decide) ?_
      refine a_iload X d_Ws_showOf_33 rfl ?_
      refine a_iconst X (v := -1) d_Ws_showOf_35 (by decide) ?_
      refine a_icmp_eq X 58 d_Ws_showOf_36 (by decide) (fun c36 => ?_) (fun c36 => ?_)
      ·
        refine a_iconst X (v := nI 0) d_Ws_showOf_58 (by decide) ?_
        refine a_istore X d_Ws_showOf_59 (by decide) ?_
        refine a_iconst X (v := nI 0) d_Ws_showOf_61 (by decide) ?_
        refine a_istore X d_Ws_showOf_62 (by decide) ?_
        refine ab_sub [(0, .ref 16), (1, .int (nI p)), (2, .int (nI st)), (5, .int (nI (sumR (fun y => s.1 st (5 + y)) 0 0))), (6, .int (nI 0))] rfl ?_
        suffices LP : ∀ (mm i : Nat), i ≤ 4 → 4 - i < mm → ab_R E G m 7 0 0 64 [(0, .ref 16), (1, .int (nI p)), (2, .int (nI st)), (5, .int (nI (sumR (fun y => s.1 st (5 + y)) 0 i))), (6, .int (nI i))] [] (hc r s w c b d k t ++ Z) from LP 5 0 (by omega) (by omega)
        intro mm
        induction mm with
        | zero => intro i h1 h2; exfalso; omega
        | succ mm ih =>
          intro i h1 h2
          refine a_iload X d_Ws_showOf_64 rfl ?_
          refine a_iconst X (v := nI 4) d_Ws_showOf_66 (by decide) ?_
          refine a_icmp_geN X 95 (by omega) (by omega) d_Ws_showOf_67 (by decide) (fun c67 => ?_) (fun c67 => ?_)
          ·
            refine a_aload_n X 0 d_Ws_showOf_95 rfl rfl ?_
            refine a_iload X d_Ws_showOf_96 rfl ?_
            refine a_callV X (a := 15) (As := [.int (nI _)]) hq_15 rfl fb_Ws_cut lk_Ws_71 im_Ws_cut se_Ws_cut (c_cut_w (by have := sumR_le (g := (fun y => s.1 st (5 + y))) (a := 0) (fun y => hw st (5 + y)) i; omega)) rfl rfl (Nat.le_of_ble_eq_true rfl) (by decide) (by decide) (Nat.le_refl _) (Nat.le_refl _) d_Ws_showOf_98 (fun v h1 hp => ?_)
            obtain ⟨rfl, rfl⟩ := hp
            exact a_lret X d_Ws_showOf_101 (Nat.le_refl _) (Nat.le_refl _) ⟨by unfold shoR; rw [if_neg hno, if_pos c36, show i = 4 by omega], rfl⟩
          ·
            refine a_iload X d_Ws_showOf_70 rfl ?_
            refine a_aload_n X 0 d_Ws_showOf_72 rfl rfl ?_
            refine a_get X ff_Ws_36 d_Ws_showOf_73 hq_15 rfl ?_
            refine a_get X ff_Ws_78 d_Ws_showOf_76 hq_4 rfl ?_
            refine a_iload_n X 2 d_Ws_showOf_79 rfl rfl ?_
            refine a_aald X d_Ws_showOf_80 hq_5 rfl rfl (ab_ix_nI (by omega) (by decide)) (hg_wt (by omega)) ?_
            refine a_iconst X (v := nI 5) d_Ws_showOf_81 (by decide) ?_
            refine a_iload X d_Ws_showOf_82 rfl ?_
            refine a_iadd X d_Ws_showOf_84 ?_
            refine ab_topi (nI_add _ _) ?_
            refine a_iald X d_Ws_showOf_85 (hr_wt (by omega)) rfl (ab_ix_nI (by omega) (by decide)) ?_
            refine a_iadd X d_Ws_showOf_86 ?_
            refine ab_topi (nI_add _ _) ?_
            refine ab_topi (congrArg nI (show _ = sumR (fun y => s.1 st (5 + y)) 0 (i + 1) from by show _ = sumR _ 0 i + s.1 st (5 + (0 + i)); rw [Nat.zero_add])) ?_
            refine a_istore X d_Ws_showOf_87 (by decide) ?_
            refine a_incN X d_Ws_showOf_89 rfl (by decide) ?_
            refine a_goto X 64 d_Ws_showOf_92 (by decide) ?_
            refine ab_sub [(0, .ref 16), (1, .int (nI p)), (2, .int (nI st)), (5, .int (nI (sumR (fun y => s.1 st (5 + y)) 0 (i + 1)))), (6, .int (nI (i + 1)))] rfl ?_
            exact ih (i + 1) (by omega) (by omega)
      ·
        obtain ⟨z, hz, hsg⟩ : ∃ z, z < 4 ∧ r.1 p = nI z := (hs p hp).resolve_left c36
        refine a_aload_n X 0 d_Ws_showOf_39 rfl rfl ?_
        refine a_aload_n X 0 d_Ws_showOf_40 rfl rfl ?_
        refine a_get X ff_Ws_36 d_Ws_showOf_41 hq_15 rfl ?_
        refine a_get X ff_Ws_78 d_Ws_showOf_44 hq_4 rfl ?_
        refine a_iload_n X 2 d_Ws_showOf_47 rfl rfl ?_
        refine a_aald X d_Ws_showOf_48 hq_5 rfl rfl (ab_ix_nI (by omega) (by decide)) (hg_wt (by omega)) ?_
        refine a_iconst X (v := nI 5) d_Ws_showOf_49 (by decide) ?_
        refine a_iload X d_Ws_showOf_50 rfl ?_
        refine a_iadd X d_Ws_showOf_52 ?_
        rw [hsg]
        refine ab_topi (nI_add _ _) ?_
        refine a_iald X d_Ws_showOf_53 (hr_wt (by omega)) rfl (ab_ix_nI (by omega) (by decide)) ?_
        refine a_callV X (a := 15) (As := [.int (nI _)]) hq_15 rfl fb_Ws_cut lk_Ws_71 im_Ws_cut se_Ws_cut (c_cut_w (by have := hw st (5 + z); omega)) rfl rfl (Nat.le_of_ble_eq_true rfl) (by decide) (by decide) (Nat.le_refl _) (Nat.le_refl _) d_Ws_showOf_54 (fun v h1 hp => ?_)
        obtain ⟨rfl, rfl⟩ := hp
        exact a_lret X d_Ws_showOf_57 (Nat.le_refl _) (Nat.le_refl _) ⟨by unfold shoR; rw [if_neg hno, if_neg c36, hsg, nI_clamp (by omega)], rfl⟩
    ·
      refine a_lconst X (v := lN 0) d_Ws_showOf_20 (by decide) ?_
      exact a_lret X d_Ws_showOf_21 (Nat.le_refl _) (Nat.le_refl _) ⟨by unfold shoR; rw [if_pos ⟨c12, c17⟩], rfl⟩
set_option maxHeartbeats 4000000 in
set_option maxRecDepth 20000 in
theorem c_lon_c {E : ab_E} {l : Launch} {r : hR} {s : hS} {w c : hW} {b : hB} {d : hD} {k : hK} {t : hT} {Z : List ab_C} (hw : ∀ i j, s.1 i j ≤ 4) {x bg st : Nat} (hn : r.2.2 ≤ 6) (hx : x ≤ 3) (hbg : bg ≤ r.2.2) (hst : st < 4) : ab_Con E l y_Ws_longerThan b_Ws_longerThan 7 (some .long) 2 47 [.ref 54, .int (nI x), .int (nI bg), .int (nI st)] (hc r s w c b d k t ++ Z) 0 0 (fun v h1 => v = some (.long (lN (lonR cuC s r.2.2 c.1 c.2.2.1 x bg st))) ∧ h1 = hc r s w c b d k t ++ Z) := by
  refine ab_con (own := "HiddenRows$WaySums") (ini := false) (by decide) (fun h => by cases h) rfl (Nat.le_of_ble_eq_true rfl) ?_
  intro G m X
  show ab_R E G m 7 0 0 0 [(0, .ref 54), (1, .int (nI x)), (2, .int (nI bg)), (3, .int (nI st))] [] (hc r s w c b d k t ++ Z)
  refine a_lconst X (v := lN 0) d_Ws_longerThan_0 (by decide) ?_
  refine a_lstore X d_Ws_longerThan_1 (by decide) ?_
  refine a_iload_n X 1 d_Ws_longerThan_3 rfl rfl ?_
  refine a_iconst X (v := nI 1) d_Ws_longerThan_4 (by decide) ?_
  refine a_iadd X d_Ws_longerThan_5 ?_
  refine ab_topi (nI_add _ _) ?_
  refine a_istore X d_Ws_longerThan_6 (by decide) ?_
  refine ab_sub [(0, .ref 54), (1, .int (nI x)), (2, .int (nI bg)), (3, .int (nI st)), (4, .long (lN (sumR (fun y => segR cuC s c.1 bg y st * c.2.2.1 (bg + y) st) (x + 1) 0))), (6, .int (nI (x + 1 + 0)))] rfl ?_
  suffices LP : ∀ (mm i : Nat), i ≤ (min 3 (r.2.2 - bg) - x) → (min 3 (r.2.2 - bg) - x) - i < mm → ab_R E G m 7 0 0 8 [(0, .ref 54), (1, .int (nI x)), (2, .int (nI bg)), (3, .int (nI st)), (4, .long (lN (sumR (fun y => segR cuC s c.1 bg y st * c.2.2.1 (bg + y) st) (x + 1) i))), (6, .int (nI (x + 1 + i)))] [] (hc r s w c b d k t ++ Z) from LP ((min 3 (r.2.2 - bg) - x) + 1) 0 (by omega) (by omega)
  intro mm
  induction mm with
  | zero => intro i h1 h2; exfalso; omega
  | succ mm ih =>
    intro i h1 h2
    refine a_iload X d_Ws_longerThan_8 rfl ?_
    refine a_iconst X (v := nI 3) d_Ws_longerThan_10 (by decide) ?_
    refine a_icmp_gtN X 59 (by omega) (by omega) d_Ws_longerThan_11 (by decide) (fun c11 => ?_) (fun c11 => ?_)
    ·
      refine a_lload X d_Ws_longerThan_59 rfl ?_
      exact a_lret X d_Ws_longerThan_61 (Nat.le_refl _) (Nat.le_refl _) ⟨by rw [show i = (min 3 (r.2.2 - bg) - x) by omega]; rfl, rfl⟩
    ·
      refine a_iload_n X 2 d_Ws_longerThan_14 rfl rfl ?_
      refine a_iload X d_Ws_longerThan_15 rfl ?_
      refine a_iadd X d_Ws_longerThan_17 ?_
      refine ab_topi (nI_add _ _) ?_
      refine a_aload_n X 0 d_Ws_longerThan_18 rfl rfl ?_
      refine a_get X ff_Ws_32 d_Ws_longerThan_19 hq_53 rfl ?_
      refine a_get X ff_Ws_47 d_Ws_longerThan_22 hq_1 rfl ?_
      refine a_icmp_gtN X 59 (by omega) (by omega) d_Ws_longerThan_25 (by decide) (fun c25 => ?_) (fun c25 => ?_)
      ·
        refine a_lload X d_Ws_longerThan_59 rfl ?_
        exact a_lret X d_Ws_longerThan_61 (Nat.le_refl _) (Nat.le_refl _) ⟨by rw [show i = (min 3 (r.2.2 - bg) - x) by omega]; rfl, rfl⟩
      ·
        refine a_lload X d_Ws_longerThan_28 rfl ?_
        refine a_aload_n X 0 d_Ws_longerThan_30 rfl rfl ?_
        refine a_iload_n X 2 d_Ws_longerThan_31 rfl rfl ?_
        refine a_iload X d_Ws_longerThan_32 rfl ?_
        refine a_iload_n X 3 d_Ws_longerThan_34 rfl rfl ?_
        refine a_callV X (a := 53) (As := [.int (nI _), .int (nI _), .int (nI _)]) hq_53 rfl fb_Ws_segment lk_Ws_75 im_Ws_segment se_Ws_segment (c_seg_c hw (by omega) (by omega) (by omega) (by omega)) rfl rfl (Nat.le_of_ble_eq_true rfl) (by decide) (by decide) (Nat.le_refl _) (Nat.le_refl _) d_Ws_longerThan_35 (fun v h1 hp => ?_)
        obtain ⟨rfl, rfl⟩ := hp
        refine a_aload_n X 0 d_Ws_longerThan_38 rfl rfl ?_
        refine a_get X ff_Ws_19 d_Ws_longerThan_39 hq_53 rfl ?_
        refine a_iload_n X 2 d_Ws_longerThan_42 rfl rfl ?_
        refine a_iload X d_Ws_longerThan_43 rfl ?_
        refine a_iadd X d_Ws_longerThan_45 ?_
        refine ab_topi (nI_add _ _) ?_
        refine a_aald X d_Ws_longerThan_46 hq_68 rfl rfl (ab_ix_nI (by omega) (by decide)) (hg_cle (by omega)) ?_
        refine a_iload_n X 3 d_Ws_longerThan_47 rfl rfl ?_
        refine a_lald X d_Ws_longerThan_48 (hr_cle (by omega)) rfl (ab_ix_nI (by omega) (by decide)) ?_
        refine a_lmul X d_Ws_longerThan_49 ?_
        refine ab_topl (lN_mul _ _) ?_
        refine a_ladd X d_Ws_longerThan_50 ?_
        refine ab_topl (lN_add _ _) ?_
        refine a_lstore X d_Ws_longerThan_51 (by decide) ?_
        refine a_incN X d_Ws_longerThan_53 rfl (by decide) ?_
        refine a_goto X 8 d_Ws_longerThan_56 (by decide) ?_
        refine ab_sub [(0, .ref 54), (1, .int (nI x)), (2, .int (nI bg)), (3, .int (nI st)), (4, .long (lN (sumR (fun y => segR cuC s c.1 bg y st * c.2.2.1 (bg + y) st) (x + 1) (i + 1)))), (6, .int (nI (x + 1 + (i + 1))))] rfl ?_
        exact ih (i + 1) (by omega) (by omega)
set_option maxHeartbeats 4000000 in
set_option maxRecDepth 20000 in
theorem c_out_c {E : ab_E} {l : Launch} {r : hR} {s : hS} {w c : hW} {b : hB} {d : hD} {k : hK} {t : hT} {Z : List ab_C} (hm : ∀ i j, s.2.1 i j ≤ 4) {p st : Nat} (hq : s.2.2 ≤ 4) (hp : p < 6) (hst : st < 4) : ab_Con E l y_Ws_movedOutOf b_Ws_movedOutOf 6 (some .long) 1 21 [.ref 54, .int (nI p), .int (nI st)] (hc r s w c b d k t ++ Z) 0 0 (fun v h1 => v = some (.long (lN (outR cuC s c.2.1 p st))) ∧ h1 = hc r s w c b d k t ++ Z) := by
  refine ab_con (own := "HiddenRows$WaySums") (ini := false) (by decide) (fun h => by cases h) rfl (Nat.le_of_ble_eq_true rfl) ?_
  intro G m X
  show ab_R E G m 6 0 0 0 [(0, .ref 54), (1, .int (nI p)), (2, .int (nI st))] [] (hc r s w c b d k t ++ Z)
  refine a_lconst X (v := lN 0) d_Ws_movedOutOf_0 (by decide) ?_
  refine a_lstore_n X 3 d_Ws_movedOutOf_1 rfl (by decide) ?_
  refine a_iconst X (v := nI 0) d_Ws_movedOutOf_2 (by decide) ?_
  refine a_istore X d_Ws_movedOutOf_3 (by decide) ?_
  refine ab_sub [(0, .ref 54), (1, .int (nI p)), (2, .int (nI st)), (3, .long (lN (sumR (fun y => cuC (s.2.1 st y) * c.2.1 p y) 0 0))), (5, .int (nI 0))] rfl ?_
  suffices LP : ∀ (mm i : Nat), i ≤ s.2.2 → s.2.2 - i < mm → ab_R E G m 6 0 0 5 [(0, .ref 54), (1, .int (nI p)), (2, .int (nI st)), (3, .long (lN (sumR (fun y => cuC (s.2.1 st y) * c.2.1 p y) 0 i))), (5, .int (nI i))] [] (hc r s w c b d k t ++ Z) from LP (s.2.2 + 1) 0 (by omega) (by omega)
  intro mm
  induction mm with
  | zero => intro i h1 h2; exfalso; omega
  | succ mm ih =>
    intro i h1 h2
    refine a_iload X d_Ws_movedOutOf_5 rfl ?_
    refine a_aload_n X 0 d_Ws_movedOutOf_7 rfl rfl ?_
    refine a_get X ff_Ws_36 d_Ws_movedOutOf_8 hq_53 rfl ?_
    refine a_get X ff_Ws_52 d_Ws_movedOutOf_11 hq_4 rfl ?_
    refine a_icmp_geN X 52 (by omega) (by omega) d_Ws_movedOutOf_14 (by decide) (fun c14 => ?_) (fun c14 => ?_)
    ·
      refine a_lload_n X 3 d_Ws_movedOutOf_52 rfl rfl ?_
      exact a_lret X d_Ws_movedOutOf_53 (Nat.le_refl _) (Nat.le_refl _) ⟨by rw [show i = s.2.2 by omega]; rfl, rfl⟩
    ·
      refine a_lload_n X 3 d_Ws_movedOutOf_17 rfl rfl ?_
      refine a_aload_n X 0 d_Ws_movedOutOf_18 rfl rfl ?_
      refine a_aload_n X 0 d_Ws_movedOutOf_19 rfl rfl ?_
      refine a_get X ff_Ws_36 d_Ws_movedOutOf_20 hq_53 rfl ?_
      refine a_get X ff_Ws_67 d_Ws_movedOutOf_23 hq_4 rfl ?_
      refine a_iload_n X 2 d_Ws_movedOutOf_26 rfl rfl ?_
      refine a_aald X d_Ws_movedOutOf_27 hq_10 rfl rfl (ab_ix_nI (by omega) (by decide)) (hg_mv (by omega)) ?_
      refine a_iload X d_Ws_movedOutOf_28 rfl ?_
      refine a_iald X d_Ws_movedOutOf_30 (hr_mv (by omega)) rfl (ab_ix_nI (by omega) (by decide)) ?_
      refine a_callV X (a := 53) (As := [.int (nI _)]) hq_53 rfl fb_Ws_cut lk_Ws_71 im_Ws_cut se_Ws_cut (c_cut_c (by have := hm st i; omega)) rfl rfl (Nat.le_of_ble_eq_true rfl) (by decide) (by decide) (Nat.le_refl _) (Nat.le_refl _) d_Ws_movedOutOf_31 (fun v h1 hp => ?_)
      obtain ⟨rfl, rfl⟩ := hp
      refine a_aload_n X 0 d_Ws_movedOutOf_34 rfl rfl ?_
      refine a_get X ff_Ws_16 d_Ws_movedOutOf_35 hq_53 rfl ?_
      refine a_iload_n X 1 d_Ws_movedOutOf_38 rfl rfl ?_
      refine a_aald X d_Ws_movedOutOf_39 hq_61 rfl rfl (ab_ix_nI (by omega) (by decide)) (hg_cfr (by omega)) ?_
      refine a_iload X d_Ws_movedOutOf_40 rfl ?_
      refine a_lald X d_Ws_movedOutOf_42 (hr_cfr (by omega)) rfl (ab_ix_nI (by omega) (by decide)) ?_
      refine a_lmul X d_Ws_movedOutOf_43 ?_
      refine ab_topl (lN_mul _ _) ?_
      refine a_ladd X d_Ws_movedOutOf_44 ?_
      refine ab_topl (lN_add _ _) ?_
      refine ab_topl (congrArg lN (show _ = sumR (fun y => cuC (s.2.1 st y) * c.2.1 p y) 0 (i + 1) from by show _ = sumR _ 0 i + _ * _; rw [Nat.zero_add])) ?_
      refine a_lstore_n X 3 d_Ws_movedOutOf_45 rfl (by decide) ?_
      refine a_incN X d_Ws_movedOutOf_46 rfl (by decide) ?_
      refine a_goto X 5 d_Ws_movedOutOf_49 (by decide) ?_
      refine ab_sub [(0, .ref 54), (1, .int (nI p)), (2, .int (nI st)), (3, .long (lN (sumR (fun y => cuC (s.2.1 st y) * c.2.1 p y) 0 (i + 1)))), (5, .int (nI (i + 1)))] rfl ?_
      exact ih (i + 1) (by omega) (by omega)
set_option maxHeartbeats 4000000 in
set_option maxRecDepth 20000 in
theorem c_int_c {E : ab_E} {l : Launch} {r : hR} {s : hS} {w c : hW} {b : hB} {d : hD} {k : hK} {t : hT} {Z : List ab_C} (hm : ∀ i j, s.2.1 i j ≤ 4) {p st : Nat} (hq : s.2.2 ≤ 4) (hp : p < 7) (hst : st < 4) : ab_Con E l y_Ws_movedInto b_Ws_movedInto 6 (some .long) 1 21 [.ref 54, .int (nI p), .int (nI st)] (hc r s w c b d k t ++ Z) 0 0 (fun v h1 => v = some (.long (lN (intR cuC s c.2.2.2.1 p st))) ∧ h1 = hc r s w c b d k t ++ Z) := by
  refine ab_con (own := "HiddenRows$WaySums") (ini := false) (by decide) (fun h => by cases h) rfl (Nat.le_of_ble_eq_true rfl) ?_
  intro G m X
  show ab_R E G m 6 0 0 0 [(0, .ref 54), (1, .int (nI p)), (2, .int (nI st))] [] (hc r s w c b d k t ++ Z)
  refine a_lconst X (v := lN 0) d_Ws_movedInto_0 (by decide) ?_
  refine a_lstore_n X 3 d_Ws_movedInto_1 rfl (by decide) ?_
  refine a_iconst X (v := nI 0) d_Ws_movedInto_2 (by decide) ?_
  refine a_istore X d_Ws_movedInto_3 (by decide) ?_
  refine ab_sub [(0, .ref 54), (1, .int (nI p)), (2, .int (nI st)), (3, .long (lN (sumR (fun y => c.2.2.2.1 p y * cuC (s.2.1 y st)) 0 0))), (5, .int (nI 0))] rfl ?_
  suffices LP : ∀ (mm i : Nat), i ≤ s.2.2 → s.2.2 - i < mm → ab_R E G m 6 0 0 5 [(0, .ref 54), (1, .int (nI p)), (2, .int (nI st)), (3, .long (lN (sumR (fun y => c.2.2.2.1 p y * cuC (s.2.1 y st)) 0 i))), (5, .int (nI i))] [] (hc r s w c b d k t ++ Z) from LP (s.2.2 + 1) 0 (by omega) (by omega)
  intro mm
  induction mm with
  | zero => intro i h1 h2; exfalso; omega
  | succ mm ih =>
    intro i h1 h2
    refine a_iload X d_Ws_movedInto_5 rfl ?_
    refine a_aload_n X 0 d_Ws_movedInto_7 rfl rfl ?_
    refine a_get X ff_Ws_36 d_Ws_movedInto_8 hq_53 rfl ?_
    refine a_get X ff_Ws_52 d_Ws_movedInto_11 hq_4 rfl ?_
    refine a_icmp_geN X 52 (by omega) (by omega) d_Ws_movedInto_14 (by decide) (fun c14 => ?_) (fun c14 => ?_)
    ·
      refine a_lload_n X 3 d_Ws_movedInto_52 rfl rfl ?_
      exact a_lret X d_Ws_movedInto_53 (Nat.le_refl _) (Nat.le_refl _) ⟨by rw [show i = s.2.2 by omega]; rfl, rfl⟩
    ·
      refine a_lload_n X 3 d_Ws_movedInto_17 rfl rfl ?_
      refine a_aload_n X 0 d_Ws_movedInto_18 rfl rfl ?_
      refine a_get X ff_Ws_22 d_Ws_movedInto_19 hq_53 rfl ?_
      refine a_iload_n X 1 d_Ws_movedInto_22 rfl rfl ?_
      refine a_aald X d_Ws_movedInto_23 hq_76 rfl rfl (ab_ix_nI (by omega) (by decide)) (hg_cup (by omega)) ?_
      refine a_iload X d_Ws_movedInto_24 rfl ?_
      refine a_lald X d_Ws_movedInto_26 (hr_cup (by omega)) rfl (ab_ix_nI (by omega) (by decide)) ?_
      refine a_aload_n X 0 d_Ws_movedInto_27 rfl rfl ?_
      refine a_aload_n X 0 d_Ws_movedInto_28 rfl rfl ?_
      refine a_get X ff_Ws_36 d_Ws_movedInto_29 hq_53 rfl ?_
      refine a_get X ff_Ws_67 d_Ws_movedInto_32 hq_4 rfl ?_
      refine a_iload X d_Ws_movedInto_35 rfl ?_
      refine a_aald X d_Ws_movedInto_37 hq_10 rfl rfl (ab_ix_nI (by omega) (by decide)) (hg_mv (by omega)) ?_
      refine a_iload_n X 2 d_Ws_movedInto_38 rfl rfl ?_
      refine a_iald X d_Ws_movedInto_39 (hr_mv (by omega)) rfl (ab_ix_nI (by omega) (by decide)) ?_
      refine a_callV X (a := 53) (As := [.int (nI _)]) hq_53 rfl fb_Ws_cut lk_Ws_71 im_Ws_cut se_Ws_cut (c_cut_c (by have := hm i st; omega)) rfl rfl (Nat.le_of_ble_eq_true rfl) (by decide) (by decide) (Nat.le_refl _) (Nat.le_refl _) d_Ws_movedInto_40 (fun v h1 hp => ?_)
      obtain ⟨rfl, rfl⟩ := hp
      refine a_lmul X d_Ws_movedInto_43 ?_
      refine ab_topl (lN_mul _ _) ?_
      refine a_ladd X d_Ws_movedInto_44 ?_
      refine ab_topl (lN_add _ _) ?_
      refine ab_topl (congrArg lN (show _ = sumR (fun y => c.2.2.2.1 p y * cuC (s.2.1 y st)) 0 (i + 1) from by show _ = sumR _ 0 i + _ * _; rw [Nat.zero_add])) ?_
      refine a_lstore_n X 3 d_Ws_movedInto_45 rfl (by decide) ?_
      refine a_incN X d_Ws_movedInto_46 rfl (by decide) ?_
      refine a_goto X 5 d_Ws_movedInto_49 (by decide) ?_
      refine ab_sub [(0, .ref 54), (1, .int (nI p)), (2, .int (nI st)), (3, .long (lN (sumR (fun y => c.2.2.2.1 p y * cuC (s.2.1 y st)) 0 (i + 1)))), (5, .int (nI (i + 1)))] rfl ?_
      exact ih (i + 1) (by omega) (by omega)
set_option maxHeartbeats 4000000 in
set_option maxRecDepth 20000 in
theorem c_end_c {E : ab_E} {l : Launch} {r : hR} {s : hS} {w c : hW} {b : hB} {d : hD} {k : hK} {t : hT} {Z : List ab_C} (hw : ∀ i j, s.1 i j ≤ 4) {e st : Nat} (he : e ≤ 6) (hst : st < 4) : ab_Con E l y_Ws_endedBefore b_Ws_endedBefore 6 (some .long) 2 47 [.ref 54, .int (nI e), .int (nI st)] (hc r s w c b d k t ++ Z) 0 0 (fun v h1 => v = some (.long (lN (endR cuC s c.1 c.2.2.2.2.1 e st))) ∧ h1 = hc r s w c b d k t ++ Z) := by
  refine ab_con (own := "HiddenRows$WaySums") (ini := false) (by decide) (fun h => by cases h) rfl (Nat.le_of_ble_eq_true rfl) ?_
  intro G m X
  show ab_R E G m 6 0 0 0 [(0, .ref 54), (1, .int (nI e)), (2, .int (nI st))] [] (hc r s w c b d k t ++ Z)
  refine a_lconst X (v := lN 0) d_Ws_endedBefore_0 (by decide) ?_
  refine a_lstore_n X 3 d_Ws_endedBefore_1 rfl (by decide) ?_
  refine a_iconst X (v := nI 1) d_Ws_endedBefore_2 (by decide) ?_
  refine a_istore X d_Ws_endedBefore_3 (by decide) ?_
  refine ab_sub [(0, .ref 54), (1, .int (nI e)), (2, .int (nI st)), (3, .long (lN (sumR (fun y => c.2.2.2.2.1 (e - y) st * segR cuC s c.1 (e - y) y st) 1 0))), (5, .int (nI (1 + 0)))] rfl ?_
  suffices LP : ∀ (mm i : Nat), i ≤ (min 3 e) → (min 3 e) - i < mm → ab_R E G m 6 0 0 5 [(0, .ref 54), (1, .int (nI e)), (2, .int (nI st)), (3, .long (lN (sumR (fun y => c.2.2.2.2.1 (e - y) st * segR cuC s c.1 (e - y) y st) 1 i))), (5, .int (nI (1 + i)))] [] (hc r s w c b d k t ++ Z) from LP ((min 3 e) + 1) 0 (by omega) (by omega)
  intro mm
  induction mm with
  | zero => intro i h1 h2; exfalso; omega
  | succ mm ih =>
    intro i h1 h2
    refine a_iload X d_Ws_endedBefore_5 rfl ?_
    refine a_iconst X (v := nI 3) d_Ws_endedBefore_7 (by decide) ?_
    refine a_icmp_gtN X 49 (by omega) (by omega) d_Ws_endedBefore_8 (by decide) (fun c8 => ?_) (fun c8 => ?_)
    ·
      refine a_lload_n X 3 d_Ws_endedBefore_49 rfl rfl ?_
      exact a_lret X d_Ws_endedBefore_50 (Nat.le_refl _) (Nat.le_refl _) ⟨by rw [show i = min 3 e by omega]; rfl, rfl⟩
    ·
      refine a_iload X d_Ws_endedBefore_11 rfl ?_
      refine a_iload_n X 1 d_Ws_endedBefore_13 rfl rfl ?_
      refine a_icmp_gtN X 49 (by omega) (by omega) d_Ws_endedBefore_14 (by decide) (fun c14 => ?_) (fun c14 => ?_)
      ·
        refine a_lload_n X 3 d_Ws_endedBefore_49 rfl rfl ?_
        exact a_lret X d_Ws_endedBefore_50 (Nat.le_refl _) (Nat.le_refl _) ⟨by rw [show i = min 3 e by omega]; rfl, rfl⟩
      ·
        refine a_lload_n X 3 d_Ws_endedBefore_17 rfl rfl ?_
        refine a_aload_n X 0 d_Ws_endedBefore_18 rfl rfl ?_
        refine a_get X ff_Ws_25 d_Ws_endedBefore_19 hq_53 rfl ?_
        refine a_iload_n X 1 d_Ws_endedBefore_22 rfl rfl ?_
        refine a_iload X d_Ws_endedBefore_23 rfl ?_
        refine a_isub X d_Ws_endedBefore_25 ?_
        refine ab_topi (pk_sub (by omega)) ?_
        refine a_aald X d_Ws_endedBefore_26 hq_84 rfl rfl (ab_ix_nI (by omega) (by decide)) (hg_cen (by omega)) ?_
        refine a_iload_n X 2 d_Ws_endedBefore_27 rfl rfl ?_
        refine a_lald X d_Ws_endedBefore_28 (hr_cen (by omega)) rfl (ab_ix_nI (by omega) (by decide)) ?_
        refine a_aload_n X 0 d_Ws_endedBefore_29 rfl rfl ?_
        refine a_iload_n X 1 d_Ws_endedBefore_30 rfl rfl ?_
        refine a_iload X d_Ws_endedBefore_31 rfl ?_
        refine a_isub X d_Ws_endedBefore_33 ?_
        refine ab_topi (pk_sub (by omega)) ?_
        refine a_iload X d_Ws_endedBefore_34 rfl ?_
        refine a_iload_n X 2 d_Ws_endedBefore_36 rfl rfl ?_
        refine a_callV X (a := 53) (As := [.int (nI _), .int (nI _), .int (nI _)]) hq_53 rfl fb_Ws_segment lk_Ws_75 im_Ws_segment se_Ws_segment (c_seg_c hw (by omega) (by omega) (by omega) (by omega)) rfl rfl (Nat.le_of_ble_eq_true rfl) (by decide) (by decide) (Nat.le_refl _) (Nat.le_refl _) d_Ws_endedBefore_37 (fun v h1 hp => ?_)
        obtain ⟨rfl, rfl⟩ := hp
        refine a_lmul X d_Ws_endedBefore_40 ?_
        refine ab_topl (lN_mul _ _) ?_
        refine a_ladd X d_Ws_endedBefore_41 ?_
        refine ab_topl (lN_add _ _) ?_
        refine a_lstore_n X 3 d_Ws_endedBefore_42 rfl (by decide) ?_
        refine a_incN X d_Ws_endedBefore_43 rfl (by decide) ?_
        refine a_goto X 5 d_Ws_endedBefore_46 (by decide) ?_
        refine ab_sub [(0, .ref 54), (1, .int (nI e)), (2, .int (nI st)), (3, .long (lN (sumR (fun y => c.2.2.2.2.1 (e - y) st * segR cuC s c.1 (e - y) y st) 1 (i + 1)))), (5, .int (nI (1 + (i + 1))))] rfl ?_
        exact ih (i + 1) (by omega) (by omega)
set_option maxHeartbeats 4000000 in
set_option maxRecDepth 20000 in
theorem c_sho_c {E : ab_E} {l : Launch} {r : hR} {s : hS} {w c : hW} {b : hB} {d : hD} {k : hK} {t : hT} {Z : List ab_C} (hw : ∀ i j, s.1 i j ≤ 4) {p st : Nat} (hp : p < 6) (hst : st < 4) (hs : ∀ i, i < 6 → r.1 i = -1 ∨ ∃ z, z < 4 ∧ r.1 i = nI z) : ab_Con E l y_Ws_showOf b_Ws_showOf 7 (some .long) 1 21 [.ref 54, .int (nI p), .int (nI st)] (hc r s w c b d k t ++ Z) 0 0 (fun v h1 => v = some (.long (lN (shoR cuC s r p st))) ∧ h1 = hc r s w c b d k t ++ Z) := by
  refine ab_con (own := "HiddenRows$WaySums") (ini := false) (by decide) (fun h => by cases h) rfl (Nat.le_of_ble_eq_true rfl) ?_
  intro G m X
  show ab_R E G m 7 0 0 0 [(0, .ref 54), (1, .int (nI p)), (2, .int (nI st))] [] (hc r s w c b d k t ++ Z)
  refine a_aload_n X 0 d_Ws_showOf_0 rfl rfl ?_
  refine a_get X ff_Ws_32 d_Ws_showOf_1 hq_53 rfl ?_
  refine a_get X ff_Ws_94 d_Ws_showOf_4 hq_1 rfl ?_
  refine a_iload_n X 1 d_Ws_showOf_7 rfl rfl ?_
  refine a_iald X d_Ws_showOf_8 hq_3 rfl (ab_ix_nI (by omega) (by decide)) ?_
  refine a_istore_n X 3 d_Ws_showOf_9 rfl (by decide) ?_
  refine a_iload_n X 3 d_Ws_showOf_10 rfl rfl ?_
  refine a_iconst X (v := -1) d_Ws_showOf_11 (by decide) ?_
  refine a_icmp_eq X 22 d_Ws_showOf_12 (by decide) (fun c12 => ?_) (fun c12 => ?_)
  ·
    have hno : ¬ (r.2.1 p ≠ -1 ∧ r.2.1 p ≠ nI st) := fun q => q.1 c12
    refine a_aload_n X 0 d_Ws_showOf_22 rfl rfl ?_
    refine a_get X ff_Ws_32 d_Ws_showOf_23 hq_53 rfl ?_
    refine a_get X ff_Ws_98 d_Ws_showOf_26 hq_1 rfl ?_
    refine a_iload_n X 1 d_Ws_showOf_29 rfl rfl ?_
    refine a_iald X d_Ws_showOf_30 hq_2 rfl (ab_ix_nI (by omega) (by decide)) ?_
    refine a_istore X d_Ws_showOf_31 (by decide) ?_
    refine a_iload X d_Ws_showOf_33 rfl ?_
    refine a_iconst X (v := -1) d_Ws_showOf_35 (by decide) ?_
    refine a_icmp_eq X 58 d_Ws_showOf_36 (by decide) (fun c36 => ?_) (fun c36 => ?_)
    ·
      refine a_iconst X (v := nI 0) d_Ws_showOf_58 (by decide) ?_
      refine a_istore X d_Ws_showOf_59 (by decide) ?_
      refine a_iconst X (v := nI 0) d_Ws_showOf_61 (by decide) ?_
      refine a_istore X d_Ws_showOf_62 (by decide) ?_
      refine ab_sub [(0, .ref 54), (1, .int (nI p)), (2, .int (nI st)), (5, .int (nI (sumR (fun y => s.1 st (5 + y)) 0 0))), (6, .int (nI 0))] rfl ?_
      suffices LP : ∀ (mm i : Nat), i ≤ 4 → 4 - i < mm → ab_R E G m 7 0 0 64 [(0, .ref 54), (1, .int (nI p)), (2, .int (nI st)), (5, .int (nI (sumR (fun y => s.1 st (5 + y)) 0 i))), (6, .int (nI i))] [] (hc r s w c b d k t ++ Z) from LP 5 0 (by omega) (by omega)
      intro mm
      induction mm with
      | zero => intro i h1 h2; exfalso; omega
      | succ mm ih =>
        intro i h1 h2
        refine a_iload X d_Ws_showOf_64 rfl ?_
        refine a_iconst X (v := nI 4) d_Ws_showOf_66 (by decide) ?_
        refine a_icmp_geN X 95 (by omega) (by omega) d_Ws_showOf_67 (by decide) (fun c67 => ?_) (fun c67 => ?_)
        ·
          refine a_aload_n X 0 d_Ws_showOf_95 rfl rfl ?_
          refine a_iload X d_Ws_showOf_96 rfl ?_
          refine a_callV X (a := 53) (As := [.int (nI _)]) hq_53 rfl fb_Ws_cut lk_Ws_71 im_Ws_cut se_Ws_cut (c_cut_c (by have := sumR_le (g := (fun y => s.1 st (5 + y))) (a := 0) (fun y => hw st (5 + y)) i; omega)) rfl rfl (Nat.le_of_ble_eq_true rfl) (by decide) (by decide) (Nat.le_refl _) (Nat.le_refl _) d_Ws_showOf_98 (fun v h1 hp => ?_)
          obtain ⟨rfl, rfl⟩ := hp
          exact a_lret X d_Ws_showOf_101 (Nat.le_refl _) (Nat.le_refl _) ⟨by unfold shoR; rw [if_neg hno, if_pos c36, show i = 4 by omega], rfl⟩
        ·
          refine a_iload X d_Ws_showOf_70 rfl ?_
          refine a_aload_n X 0 d_Ws_showOf_72 rfl rfl ?_
          refine a_get X ff_Ws_36 d_Ws_showOf_73 hq_53 rfl ?_
          refine a_get X ff_Ws_78 d_Ws_showOf_76 hq_4 rfl ?_
          refine a_iload_n X 2 d_Ws_showOf_79 rfl rfl ?_
          refine a_aald X d_Ws_showOf_80 hq_5 rfl rfl (ab_ix_nI (by omega) (by decide)) (hg_wt (by omega)) ?_
          refine a_iconst X (v := nI 5) d_Ws_showOf_81 (by decide) ?_
          refine a_iload X d_Ws_showOf_82 rfl ?_
          refine a_iadd X d_Ws_showOf_84 ?_
          refine ab_topi (nI_add _ _) ?_
          refine a_iald X d_Ws_showOf_85 (hr_wt (by omega)) rfl (ab_ix_nI (by omega) (by decide)) ?_
          refine a_iadd X d_Ws_showOf_86 ?_
          refine ab_topi (nI_add _ _) ?_
          refine ab_topi (congrArg nI (show _ = sumR (fun y => s.1 st (5 + y)) 0 (i + 1) from by show _ = sumR _ 0 i + s.1 st (5 + (0 + i)); rw [Nat.zero_add])) ?_
          refine a_istore X d_Ws_showOf_87 (by decide) ?_
          refine a_incN X d_Ws_showOf_89 rfl (by decide) ?_
          refine a_goto X 64 d_Ws_showOf_92 (by decide) ?_
          refine ab_sub [(0, .ref 54), (1, .int (nI p)), (2, .int (nI st)), (5, .int (nI (sumR (fun y => s.1 st (5 + y)) 0 (i + 1)))), (6, .int (nI (i + 1)))] rfl ?_
          exact ih (i + 1) (by omega) (by omega)
    ·
      obtain ⟨z, hz, hsg⟩ : ∃ z, z < 4 ∧ r.1 p = nI z := (hs p hp).resolve_left c36
      refine a_aload_n X 0 d_Ws_showOf_39 rfl rfl ?_
      refine a_aload_n X 0 d_Ws_showOf_40 rfl rfl ?_
      refine a_get X ff_Ws_36 d_Ws_showOf_41 hq_53 rfl ?_
      refine a_get X ff_Ws_78 d_Ws_showOf_44 hq_4 rfl ?_
      refine a_iload_n X 2 d_Ws_showOf_47 rfl rfl ?_
      refine a_aald X d_Ws_showOf_48 hq_5 rfl rfl (ab_ix_nI (by omega) (by decide)) (hg_wt (by omega)) ?_
      refine a_iconst X (v := nI 5) d_Ws_showOf_49 (by decide) ?_
      refine a_iload X d_Ws_showOf_50 rfl ?_
      refine a_iadd X d_Ws_showOf_52 ?_
      rw [hsg]
      refine ab_topi (nI_add _ _) ?_
      refine a_iald X d_Ws_showOf_53 (hr_wt (by omega)) rfl (ab_ix_nI (by omega) (by decide)) ?_
      refine a_callV X (a := 53) (As := [.int (nI _)]) hq_53 rfl fb_Ws_cut lk_Ws_71 im_Ws_cut se_Ws_cut (c_cut_c (by have := hw st (5 + z); omega)) rfl rfl (Nat.le_of_ble_eq_true rfl) (by decide) (by decide) (Nat.le_refl _) (Nat.le_refl _) d_Ws_showOf_54 (fun v h1 hp => ?_)
      obtain ⟨rfl, rfl⟩ := hp
      exact a_lret X d_Ws_showOf_57 (Nat.le_refl _) (Nat.le_refl _) ⟨by unfold shoR; rw [if_neg hno, if_neg c36, hsg, nI_clamp (by omega)], rfl⟩
  ·
    refine a_iload_n X 3 d_Ws_showOf_15 rfl rfl ?_
    refine a_iload_n X 2 d_Ws_showOf_16 rfl rfl ?_
    refine a_icmp_eq X 22 d_Ws_showOf_17 (by decide) (fun c17 => ?_) (fun c17 => ?_)
    ·
      have hno : ¬ (r.2.1 p ≠ -1 ∧ r.2.1 p ≠ nI st) := fun q => q.2 c17
      refine a_aload_n X 0 d_Ws_showOf_22 rfl rfl ?_
      refine a_get X ff_Ws_32 d_Ws_showOf_23 hq_53 rfl ?_
      refine a_get X ff_Ws_98 d_Ws_showOf_26 hq_1 rfl ?_
      refine a_iload_n X 1 d_Ws_showOf_29 rfl rfl ?_
      refine a_iald X d_Ws_showOf_30 hq_2 rfl (ab_ix_nI (by omega) (by decide)) ?_
      refine a_istore X d_Ws_showOf_31 (by decide) ?_
      refine a_iload X d_Ws_showOf_33 rfl ?_
      refine a_iconst X (v := -1) d_Ws_showOf_35 (by decide) ?_
      refine a_icmp_eq X 58 d_Ws_showOf_36 (by decide) (fun c36 => ?_) (fun c36 => ?_)
      ·
        refine a_iconst X (v := nI 0) d_Ws_showOf_58 (by decide) ?_
        refine a_istore X d_Ws_showOf_59 (by decide) ?_
        refine a_iconst X (v := nI 0) d_Ws_showOf_61 (by decide) ?_
        refine a_istore X d_Ws_showOf_62 (by decide) ?_
        refine ab_sub [(0, .ref 54), (1, .int (nI p)), (2, .int (nI st)), (5, .int (nI (sumR (fun y => s.1 st (5 + y)) 0 0))), (6, .int (nI 0))] rfl ?_
        suffices LP : ∀ (mm i : Nat), i ≤ 4 → 4 - i < mm → ab_R E G m 7 0 0 64 [(0, .ref 54), (1, .int (nI p)), (2, .int (nI st)), (5, .int (nI (sumR (fun y => s.1 st (5 + y)) 0 i))), (6, .int (nI i))] [] (hc r s w c b d k t ++ Z) from LP 5 0 (by omega) (by omega)
        intro mm
        induction mm with
        | zero => intro i h1 h2; exfalso; omega
        | succ mm ih =>
          intro i h1 h2
          refine a_iload X d_Ws_showOf_64 rfl ?_
          refine a_iconst X (v := nI 4) d_Ws_showOf_66 (by decide) ?_
          refine a_icmp_geN X 95 (by omega) (by omega) d_Ws_showOf_67 (by decide) (fun c67 => ?_) (fun c67 => ?_)
          ·
            refine a_aload_n X 0 d_Ws_showOf_95 rfl rfl ?_
            refine a_iload X d_Ws_showOf_96 rfl ?_
            refine a_callV X (a := 53) (As := [.int (nI _)]) hq_53 rfl fb_Ws_cut lk_Ws_71 im_Ws_cut se_Ws_cut (c_cut_c (by have := sumR_le (g := (fun y => s.1 st (5 + y))) (a := 0) (fun y => hw st (5 + y)) i; omega)) rfl rfl (Nat.le_of_ble_eq_true rfl) (by decide) (by decide) (Nat.le_refl _) (Nat.le_refl _) d_Ws_showOf_98 (fun v h1 hp => ?_)
            obtain ⟨rfl, rfl⟩ := hp
            exact a_lret X d_Ws_showOf_101 (Nat.le_refl _) (Nat.le_refl _) ⟨by unfold shoR; rw [if_neg hno, if_pos c36, show i = 4 by omega], rfl⟩
          ·
            refine a_iload X d_Ws_showOf_70 rfl ?_
            refine a_aload_n X 0 d_Ws_showOf_72 rfl rfl ?_
            refine a_get X ff_Ws_36 d_Ws_showOf_73 hq_53 rfl ?_
            refine a_get X ff_Ws_78 d_Ws_showOf_76 hq_4 rfl ?_
            refine a_iload_n X 2 d_Ws_showOf_79 rfl rfl ?_
            refine a_aald X d_Ws_showOf_80 hq_5 rfl rfl (ab_ix_nI (by omega) (by decide)) (hg_wt (by omega)) ?_
            refine a_iconst X (v := nI 5) d_Ws_showOf_81 (by decide) ?_
            refine a_iload X d_Ws_showOf_82 rfl ?_
            refine a_iadd X d_Ws_showOf_84 ?_
            refine ab_topi (nI_add _ _) ?_
            refine a_iald X d_Ws_showOf_85 (hr_wt (by omega)) rfl (ab_ix_nI (by omega) (by decide)) ?_
            refine a_iadd X d_Ws_showOf_86 ?_
            refine ab_topi (nI_add _ _) ?_
            refine ab_topi (congrArg nI (show _ = sumR (fun y => s.1 st (5 + y)) 0 (i + 1) from by show _ = sumR _ 0 i + s.1 st (5 + (0 + i)); rw [Nat.zero_add])) ?_
            refine a_istore X d_Ws_showOf_87 (by decide) ?_
            refine a_incN X d_Ws_showOf_89 rfl (by decide) ?_
            refine a_goto X 64 d_Ws_showOf_92 (by decide) ?_
            refine ab_sub [(0, .ref 54), (1, .int (nI p)), (2, .int (nI st)), (5, .int (nI (sumR (fun y => s.1 st (5 + y)) 0 (i + 1)))), (6, .int (nI (i + 1)))] rfl ?_
            exact ih (i + 1) (by omega) (by omega)
      ·
        obtain ⟨z, hz, hsg⟩ : ∃ z, z < 4 ∧ r.1 p = nI z := (hs p hp).resolve_left c36
        refine a_aload_n X 0 d_Ws_showOf_39 rfl rfl ?_
        refine a_aload_n X 0 d_Ws_showOf_40 rfl rfl ?_
        refine a_get X ff_Ws_36 d_Ws_showOf_41 hq_53 rfl ?_
        refine a_get X ff_Ws_78 d_Ws_showOf_44 hq_4 rfl ?_
        refine a_iload_n X 2 d_Ws_showOf_47 rfl rfl ?_
        refine a_aald X d_Ws_showOf_48 hq_5 rfl rfl (ab_ix_nI (by omega) (by decide)) (hg_wt (by omega)) ?_
        refine a_iconst X (v := nI 5) d_Ws_showOf_49 (by decide) ?_
        refine a_iload X d_Ws_showOf_50 rfl ?_
        refine a_iadd X d_Ws_showOf_52 ?_
        rw [hsg]
        refine ab_topi (nI_add _ _) ?_
        refine a_iald X d_Ws_showOf_53 (hr_wt (by omega)) rfl (ab_ix_nI (by omega) (by decide)) ?_
        refine a_callV X (a := 53) (As := [.int (nI _)]) hq_53 rfl fb_Ws_cut lk_Ws_71 im_Ws_cut se_Ws_cut (c_cut_c (by have := hw st (5 + z); omega)) rfl rfl (Nat.le_of_ble_eq_true rfl) (by decide) (by decide) (Nat.le_refl _) (Nat.le_refl _) d_Ws_showOf_54 (fun v h1 hp => ?_)
        obtain ⟨rfl, rfl⟩ := hp
        exact a_lret X d_Ws_showOf_57 (Nat.le_refl _) (Nat.le_refl _) ⟨by unfold shoR; rw [if_neg hno, if_neg c36, hsg, nI_clamp (by omega)], rfl⟩
    ·
      refine a_lconst X (v := lN 0) d_Ws_showOf_20 (by decide) ?_
      exact a_lret X d_Ws_showOf_21 (Nat.le_refl _) (Nat.le_refl _) ⟨by unfold shoR; rw [if_pos ⟨c12, c17⟩], rfl⟩
