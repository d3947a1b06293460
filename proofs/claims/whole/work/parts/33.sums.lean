def cuC (x : Nat) : Nat := min x 1
def mulR (f : Nat → Nat) (x b : Nat) : Nat → Nat
  | 0 => x
  | m + 1 => mulR f x b m * f (b + m)
def sumR (g : Nat → Nat) (a : Nat) : Nat → Nat
  | 0 => 0
  | m + 1 => sumR g a m + g (a + m)
def segR (cu : Nat → Nat) (s : hS) (f : hG) (bg pl st : Nat) : Nat := mulR (fun p => f p st) (cu (s.1 st (2 + pl - 1))) bg pl
def lonR (cu : Nat → Nat) (s : hS) (n : Nat) (f g : hG) (x bg st : Nat) : Nat := sumR (fun y => segR cu s f bg y st * g (bg + y) st) (x + 1) (min 3 (n - bg) - x)
def outR (cu : Nat → Nat) (s : hS) (f : hG) (p st : Nat) : Nat := sumR (fun y => cu (s.2.1 st y) * f p y) 0 s.2.2
def intR (cu : Nat → Nat) (s : hS) (f : hG) (p st : Nat) : Nat := sumR (fun y => f p y * cu (s.2.1 y st)) 0 s.2.2
def endR (cu : Nat → Nat) (s : hS) (f g : hG) (e st : Nat) : Nat := sumR (fun y => g (e - y) st * segR cu s f (e - y) y st) 1 (min 3 e)
set_option maxHeartbeats 4000000 in
set_option maxRecDepth 20000 in
theorem c_cut_w {E : ab_E} {l : Launch} {r : hR} {s : hS} {w c : hW} {b : hB} {d : hD} {k : hK} {t : hT} {Z : List ab_C} {x : Nat} (hx : x ≤ 16) : ab_Con E l y_Ws_cut b_Ws_cut 2 (some .long) 0 0 [.ref 16, .int (nI x)] (hc r s w c b d k t ++ Z) 0 0 (fun v h1 => v = some (.long (lN (id x))) ∧ h1 = hc r s w c b d k t ++ Z) := by
  refine ab_con (own := "HiddenRows$WaySums") (ini := false) (by decide) (fun h => by cases h) rfl (Nat.le_of_ble_eq_true rfl) ?_
  intro G m X
  show ab_R E G m 2 0 0 0 [(0, .ref 16), (1, .int (nI x))] [] (hc r s w c b d k t ++ Z)
  refine a_iload_n X 1 d_Ws_cut_0 rfl rfl ?_
  refine a_aload_n X 0 d_Ws_cut_1 rfl rfl ?_
  refine a_get X ff_Ws_40 d_Ws_cut_2 hq_15 rfl ?_
  refine a_icmp_geN X 13 (by omega) (by omega) d_Ws_cut_5 (by decide) (fun c5 => ?_) (fun c5 => ?_)
  ·
    refine a_aload_n X 0 d_Ws_cut_13 rfl rfl ?_
    refine a_get X ff_Ws_40 d_Ws_cut_14 hq_15 rfl ?_
    refine a_i2l X d_Ws_cut_17 ?_
    refine ab_topl (nI_l (by omega)) ?_
    exact a_lret X d_Ws_cut_18 (Nat.le_refl _) (Nat.le_refl _) ⟨by first | rfl | (rw [show x = 16 by omega]; rfl), rfl⟩
  ·
    refine a_iload_n X 1 d_Ws_cut_8 rfl rfl ?_
    refine a_i2l X d_Ws_cut_9 ?_
    refine ab_topl (nI_l (by omega)) ?_
    refine a_goto X 18 d_Ws_cut_10 (by decide) ?_
    exact a_lret X d_Ws_cut_18 (Nat.le_refl _) (Nat.le_refl _) ⟨by first | rfl | (rw [show x = 16 by omega]; rfl), rfl⟩
set_option maxHeartbeats 4000000 in
set_option maxRecDepth 20000 in
theorem c_seg_w {E : ab_E} {l : Launch} {r : hR} {s : hS} {w c : hW} {b : hB} {d : hD} {k : hK} {t : hT} {Z : List ab_C} (hw : ∀ i j, s.1 i j ≤ 4) {bg pl st : Nat} (hp : 1 ≤ pl) (hp3 : pl ≤ 3) (hst : st < 4) (hb : bg + pl ≤ 6) : ab_Con E l y_Ws_segment b_Ws_segment 7 (some .long) 1 21 [.ref 16, .int (nI bg), .int (nI pl), .int (nI st)] (hc r s w c b d k t ++ Z) 0 0 (fun v h1 => v = some (.long (lN (segR id s w.1 bg pl st))) ∧ h1 = hc r s w c b d k t ++ Z) := by
  refine ab_con (own := "HiddenRows$WaySums") (ini := false) (by decide) (fun h => by cases h) rfl (Nat.le_of_ble_eq_true rfl) ?_
  intro G m X
  show ab_R E G m 7 0 0 0 [(0, .ref 16), (1, .int (nI bg)), (2, .int (nI pl)), (3, .int (nI st))] [] (hc r s w c b d k t ++ Z)
  refine a_aload_n X 0 d_Ws_segment_0 rfl rfl ?_
  refine a_aload_n X 0 d_Ws_segment_1 rfl rfl ?_
  refine a_get X ff_Ws_36 d_Ws_segment_2 hq_15 rfl ?_
  refine a_get X ff_Ws_78 d_Ws_segment_5 hq_4 rfl ?_
  refine a_iload_n X 3 d_Ws_segment_8 rfl rfl ?_
  refine a_aald X d_Ws_segment_9 hq_5 rfl rfl (ab_ix_nI (by omega) (by decide)) (hg_wt (by omega)) ?_
  refine a_iconst X (v := nI 2) d_Ws_segment_10 (by decide) ?_
  refine a_iload_n X 2 d_Ws_segment_11 rfl rfl ?_
  refine a_iadd X d_Ws_segment_12 ?_
  refine ab_topi (nI_add _ _) ?_
  refine a_iconst X (v := nI 1) d_Ws_segment_13 (by decide) ?_
  refine a_isub X d_Ws_segment_14 ?_
  refine ab_topi (pk_sub (by omega)) ?_
  refine a_iald X d_Ws_segment_15 (hr_wt (by omega)) rfl (ab_ix_nI (by omega) (by decide)) ?_
  refine a_callV X (a := 15) (As := [.int (nI _)]) hq_15 rfl fb_Ws_cut lk_Ws_71 im_Ws_cut se_Ws_cut (c_cut_w (by have := hw st (2 + pl - 1); omega)) rfl rfl (Nat.le_of_ble_eq_true rfl) (by decide) (by decide) (Nat.le_refl _) (Nat.le_refl _) d_Ws_segment_16 (fun v h1 hp => ?_)
  obtain ⟨rfl, rfl⟩ := hp
  refine a_lstore X d_Ws_segment_19 (by decide) ?_
  refine a_iload_n X 1 d_Ws_segment_21 rfl rfl ?_
  refine a_istore X d_Ws_segment_22 (by decide) ?_
  refine ab_sub [(0, .ref 16), (1, .int (nI bg)), (2, .int (nI pl)), (3, .int (nI st)), (4, .long (lN (mulR (fun p => w.1 p st) (id (s.1 st (2 + pl - 1))) bg 0))), (6, .int (nI (bg + 0)))] rfl ?_
  suffices LP : ∀ (mm i : Nat), i ≤ pl → pl - i < mm → ab_R E G m 7 0 0 24 [(0, .ref 16), (1, .int (nI bg)), (2, .int (nI pl)), (3, .int (nI st)), (4, .long (lN (mulR (fun p => w.1 p st) (id (s.1 st (2 + pl - 1))) bg i))), (6, .int (nI (bg + i)))] [] (hc r s w c b d k t ++ Z) from LP (pl + 1) 0 (by omega) (by omega)
  intro mm
  induction mm with
  | zero => intro i h1 h2; exfalso; omega
  | succ mm ih =>
    intro i h1 h2
    refine a_iload X d_Ws_segment_24 rfl ?_
    refine a_iload_n X 1 d_Ws_segment_26 rfl rfl ?_
    refine a_iload_n X 2 d_Ws_segment_27 rfl rfl ?_
    refine a_iadd X d_Ws_segment_28 ?_
    refine ab_topi (nI_add _ _) ?_
    refine a_icmp_geN X 52 (by omega) (by omega) d_Ws_segment_29 (by decide) (fun c29 => ?_) (fun c29 => ?_)
    ·
      refine a_lload X d_Ws_segment_52 rfl ?_
      exact a_lret X d_Ws_segment_54 (Nat.le_refl _) (Nat.le_refl _) ⟨by rw [show i = pl by omega]; rfl, rfl⟩
    ·
      refine a_lload X d_Ws_segment_32 rfl ?_
      refine a_aload_n X 0 d_Ws_segment_34 rfl rfl ?_
      refine a_get X ff_Ws_11 d_Ws_segment_35 hq_15 rfl ?_
      refine a_iload X d_Ws_segment_38 rfl ?_
      refine a_aald X d_Ws_segment_40 hq_16 rfl rfl (ab_ix_nI (by omega) (by decide)) (hg_sh (by omega)) ?_
      refine a_iload_n X 3 d_Ws_segment_41 rfl rfl ?_
      refine a_lald X d_Ws_segment_42 (hr_sh (by omega)) rfl (ab_ix_nI (by omega) (by decide)) ?_
      refine a_lmul X d_Ws_segment_43 ?_
      refine ab_topl (lN_mul _ _) ?_
      refine a_lstore X d_Ws_segment_44 (by decide) ?_
      refine a_incN X d_Ws_segment_46 rfl (by decide) ?_
      refine a_goto X 24 d_Ws_segment_49 (by decide) ?_
      refine ab_sub [(0, .ref 16), (1, .int (nI bg)), (2, .int (nI pl)), (3, .int (nI st)), (4, .long (lN (mulR (fun p => w.1 p st) (id (s.1 st (2 + pl - 1))) bg (i + 1)))), (6, .int (nI (bg + (i + 1))))] rfl ?_
      exact ih (i + 1) (by omega) (by omega)
set_option maxHeartbeats 4000000 in
set_option maxRecDepth 20000 in
theorem c_cut_c {E : ab_E} {l : Launch} {r : hR} {s : hS} {w c : hW} {b : hB} {d : hD} {k : hK} {t : hT} {Z : List ab_C} {x : Nat} (hx : x < 2147483648) : ab_Con E l y_Ws_cut b_Ws_cut 2 (some .long) 0 0 [.ref 54, .int (nI x)] (hc r s w c b d k t ++ Z) 0 0 (fun v h1 => v = some (.long (lN (cuC x))) ∧ h1 = hc r s w c b d k t ++ Z) := by
  refine ab_con (own := "HiddenRows$WaySums") (ini := false) (by decide) (fun h => by cases h) rfl (Nat.le_of_ble_eq_true rfl) ?_
  intro G m X
  show ab_R E G m 2 0 0 0 [(0, .ref 54), (1, .int (nI x))] [] (hc r s w c b d k t ++ Z)
  refine a_iload_n X 1 d_Ws_cut_0 rfl rfl ?_
  refine a_aload_n X 0 d_Ws_cut_1 rfl rfl ?_
  refine a_get X ff_Ws_40 d_Ws_cut_2 hq_53 rfl ?_
  refine a_icmp_geN X 13 (by omega) (by omega) d_Ws_cut_5 (by decide) (fun c5 => ?_) (fun c5 => ?_)
  ·
    refine a_aload_n X 0 d_Ws_cut_13 rfl rfl ?_
    refine a_get X ff_Ws_40 d_Ws_cut_14 hq_53 rfl ?_
    refine a_i2l X d_Ws_cut_17 ?_
    refine ab_topl (nI_l (by omega)) ?_
    exact a_lret X d_Ws_cut_18 (Nat.le_refl _) (Nat.le_refl _) ⟨by unfold cuC; first | rw [Nat.min_eq_right (by omega)] | rw [Nat.min_eq_left (by omega)], rfl⟩
  ·
    refine a_iload_n X 1 d_Ws_cut_8 rfl rfl ?_
    refine a_i2l X d_Ws_cut_9 ?_
    refine ab_topl (nI_l (by omega)) ?_
    refine a_goto X 18 d_Ws_cut_10 (by decide) ?_
    exact a_lret X d_Ws_cut_18 (Nat.le_refl _) (Nat.le_refl _) ⟨by unfold cuC; first | rw [Nat.min_eq_right (by omega)] | rw [Nat.min_eq_left (by omega)], rfl⟩
set_option maxHeartbeats 4000000 in
set_option maxRecDepth 20000 in
theorem c_seg_c {E : ab_E} {l : Launch} {r : hR} {s : hS} {w c : hW} {b : hB} {d : hD} {k : hK} {t : hT} {Z : List ab_C} (hw : ∀ i j, s.1 i j ≤ 4) {bg pl st : Nat} (hp : 1 ≤ pl) (hp3 : pl ≤ 3) (hst : st < 4) (hb : bg + pl ≤ 6) : ab_Con E l y_Ws_segment b_Ws_segment 7 (some .long) 1 21 [.ref 54, .int (nI bg), .int (nI pl), .int (nI st)] (hc r s w c b d k t ++ Z) 0 0 (fun v h1 => v = some (.long (lN (segR cuC s c.1 bg pl st))) ∧ h1 = hc r s w c b d k t ++ Z) := by
  refine ab_con (own := "HiddenRows$WaySums") (ini := false) (by decide) (fun h => by cases h) rfl (Nat.le_of_ble_eq_true rfl) ?_
  intro G m X
  show ab_R E G m 7 0 0 0 [(0, .ref 54), (1, .int (nI bg)), (2, .int (nI pl)), (3, .int (nI st))] [] (hc r s w c b d k t ++ Z)
  refine a_aload_n X 0 d_Ws_segment_0 rfl rfl ?_
  refine a_aload_n X 0 d_Ws_segment_1 rfl rfl ?_
  refine a_get X ff_Ws_36 d_Ws_segment_2 hq_53 rfl ?_
  refine a_get X ff_Ws_78 d_Ws_segment_5 hq_4 rfl ?_
  refine a_iload_n X 3 d_Ws_segment_8 rfl rfl ?_
  refine a_aald X d_Ws_segment_9 hq_5 rfl rfl (ab_ix_nI (by omega) (by decide)) (hg_wt (by omega)) ?_
  refine a_iconst X (v := nI 2) d_Ws_segment_10 (by decide) ?_
  refine a_iload_n X 2 d_Ws_segment_11 rfl rfl ?_
  refine a_iadd X d_Ws_segment_12 ?_
  refine ab_topi (nI_add _ _) ?_
  refine a_iconst X (v := nI 1) d_Ws_segment_13 (by decide) ?_
  refine a_isub X d_Ws_segment_14 ?_
  refine ab_topi (pk_sub (by omega)) ?_
  refine a_iald X d_Ws_segment_15 (hr_wt (by omega)) rfl (ab_ix_nI (by omega) (by decide)) ?_
  refine a_callV X (a := 53) (As := [.int (nI _)]) hq_53 rfl fb_Ws_cut lk_Ws_71 im_Ws_cut se_Ws_cut (c_cut_c (by have := hw st (2 + pl - 1); omega)) rfl rfl (Nat.le_of_ble_eq_true rfl) (by decide) (by decide) (Nat.le_refl _) (Nat.le_refl _) d_Ws_segment_16 (fun v h1 hp => ?_)
  obtain ⟨rfl, rfl⟩ := hp
  refine a_lstore X d_Ws_segment_19 (by decide) ?_
  refine a_iload_n X 1 d_Ws_segment_21 rfl rfl ?_
  refine a_istore X d_Ws_segment_22 (by decide) ?_
  refine ab_sub [(0, .ref 54), (1, .int (nI bg)), (2, .int (nI pl)), (3, .int (nI st)), (4, .long (lN (mulR (fun p => c.1 p st) (cuC (s.1 st (2 + pl - 1))) bg 0))), (6, .int (nI (bg + 0)))] rfl ?_
  suffices LP : ∀ (mm i : Nat), i ≤ pl → pl - i < mm → ab_R E G m 7 0 0 24 [(0, .ref 54), (1, .int (nI bg)), (2, .int (nI pl)), (3, .int (nI st)), (4, .long (lN (mulR (fun p => c.1 p st) (cuC (s.1 st (2 + pl - 1))) bg i))), (6, .int (nI (bg + i)))] [] (hc r s w c b d k t ++ Z) from LP (pl + 1) 0 (by omega) (by omega)
  intro mm
  induction mm with
  | zero => intro i h1 h2; exfalso; omega
  | succ mm ih =>
    intro i h1 h2
    refine a_iload X d_Ws_segment_24 rfl ?_
    refine a_iload_n X 1 d_Ws_segment_26 rfl rfl ?_
    refine a_iload_n X 2 d_Ws_segment_27 rfl rfl ?_
    refine a_iadd X d_Ws_segment_28 ?_
    refine ab_topi (nI_add _ _) ?_
    refine a_icmp_geN X 52 (by omega) (by omega) d_Ws_segment_29 (by decide) (fun c29 => ?_) (fun c29 => ?_)
    ·
      refine a_lload X d_Ws_segment_52 rfl ?_
      exact a_lret X d_Ws_segment_54 (Nat.le_refl _) (Nat.le_refl _) ⟨by rw [show i = pl by omega]; rfl, rfl⟩
    ·
      refine a_lload X d_Ws_segment_32 rfl ?_
      refine a_aload_n X 0 d_Ws_segment_34 rfl rfl ?_
      refine a_get X ff_Ws_11 d_Ws_segment_35 hq_53 rfl ?_
      refine a_iload X d_Ws_segment_38 rfl ?_
      refine a_aald X d_Ws_segment_40 hq_54 rfl rfl (ab_ix_nI (by omega) (by decide)) (hg_csh (by omega)) ?_
      refine a_iload_n X 3 d_Ws_segment_41 rfl rfl ?_
      refine a_lald X d_Ws_segment_42 (hr_csh (by omega)) rfl (ab_ix_nI (by omega) (by decide)) ?_
      refine a_lmul X d_Ws_segment_43 ?_
      refine ab_topl (lN_mul _ _) ?_
      refine a_lstore X d_Ws_segment_44 (by decide) ?_
      refine a_incN X d_Ws_segment_46 rfl (by decide) ?_
      refine a_goto X 24 d_Ws_segment_49 (by decide) ?_
      refine ab_sub [(0, .ref 54), (1, .int (nI bg)), (2, .int (nI pl)), (3, .int (nI st)), (4, .long (lN (mulR (fun p => c.1 p st) (cuC (s.1 st (2 + pl - 1))) bg (i + 1)))), (6, .int (nI (bg + (i + 1))))] rfl ?_
      exact ih (i + 1) (by omega) (by omega)
