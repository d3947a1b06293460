set_option maxHeartbeats 4000000 in
set_option maxRecDepth 20000 in
theorem c_Dr_tel {E : ab_E} {l : Launch} {r : hR} {s : hS} {w c : hW} {b : hB} {d : hD} {k : hK} {t : hT} {Z : List ab_C} {p lf : Nat} (hn : r.2.2 ≤ 6) (hs : okS s) (hp : p < r.2.2) (hos : d.2.1 < 4) (hob : d.2.2.1 ≤ p) (hlen : p - d.2.2.1 ≤ 3) (htd : d.2.2.2.2.1 < 2 ^ 20) (hlf : lf < 2 ^ 63) (hsb : ∀ x, x < 2 * s.2.2 → sumD s r.2.2 w d p x < 2 ^ 63) : ab_Con E l y_Dr_tellPlace b_Dr_tellPlace 9 (some .long) 4 96 [.ref 169, .int (nI p), .long (lN lf)] (hc r s w c b d k t ++ Z) 0 0 (fun v h1 => (∃ x, x < 2 * s.2.2 ∧ sumR (fun y0 => sumD s r.2.2 w d p y0) 0 x ≤ lf ∧ lf < sumR (fun y0 => sumD s r.2.2 w d p y0) 0 (x + 1) ∧ v = some (.long (lN (lf - sumR (fun y0 => sumD s r.2.2 w d p y0) 0 x))) ∧ h1 = hc r s w c b (takD s d p x) k t ++ Z) ∨ (sumR (fun y0 => sumD s r.2.2 w d p y0) 0 (2 * s.2.2) ≤ lf ∧ v = some (.long (lN (lf - sumR (fun y0 => sumD s r.2.2 w d p y0) 0 (2 * s.2.2)))) ∧ h1 = hc r s w c b d k t ++ Z)) := by
  have hq := hs.1
  refine ab_con (own := "HiddenRows$Drawing") (ini := false) (by decide) (fun h => by cases h) rfl (Nat.le_of_ble_eq_true rfl) ?_
  intro G m X
  show ab_R E G m 9 0 0 0 [(0, .ref 169), (1, .int (nI p)), (2, .long (lN lf))] [] (hc r s w c b d k t ++ Z)
  refine a_lload_n X 2 d_Dr_tellPlace_0 rfl rfl ?_
  refine a_lstore X d_Dr_tellPlace_1 (by decide) ?_
  refine a_iconst X (v := nI 0) d_Dr_tellPlace_3 (by decide) ?_
  refine a_istore X d_Dr_tellPlace_4 (by decide) ?_
  refine ab_sub [(0, .ref 169), (1, .int (nI p)), (4, .long (lN (lf - sumR (fun y0 => sumD s r.2.2 w d p y0) 0 0))), (6, .int (nI 0))] rfl ?_
  suffices LP : ∀ (mm x : Nat), x ≤ 2 * s.2.2 → 2 * s.2.2 - x < mm → sumR (fun y0 => sumD s r.2.2 w d p y0) 0 x ≤ lf → ab_R E G m 9 0 0 6 [(0, .ref 169), (1, .int (nI p)), (4, .long (lN (lf - sumR (fun y0 => sumD s r.2.2 w d p y0) 0 x))), (6, .int (nI x))] [] (hc r s w c b d k t ++ Z) from LP (2 * s.2.2 + 1) 0 (by omega) (by omega) (Nat.zero_le _)
  intro mm
  induction mm with
  | zero => intro x h1 h2 h3; exfalso; omega
  | succ mm ih =>
    intro x h1 h2 hle
    refine a_iload X d_Dr_tellPlace_6 rfl ?_
    refine a_iconst X (v := nI 2) d_Dr_tellPlace_8 (by decide) ?_
    refine a_aload_n X 0 d_Dr_tellPlace_9 rfl rfl ?_
    refine a_get X ff_Dr_36 d_Dr_tellPlace_10 hq_168 rfl ?_
    refine a_get X ff_Dr_72 d_Dr_tellPlace_13 hq_4 rfl ?_
    refine a_imul X d_Dr_tellPlace_16 ?_
    refine ab_topi (pk_mul _ _) ?_
    refine a_icmp_geN X 60 (by omega) (by omega) d_Dr_tellPlace_17 (by decide) (fun c17 => ?_) (fun c17 => ?_)
    ·
      refine a_lload X d_Dr_tellPlace_60 rfl ?_
      exact a_lret X d_Dr_tellPlace_62 (Nat.le_refl _) (Nat.le_refl _) (Or.inr ⟨by rw [← show x = 2 * s.2.2 by omega]; exact hle, by rw [← show x = 2 * s.2.2 by omega], rfl⟩)
    ·
      refine a_aload_n X 0 d_Dr_tellPlace_20 rfl rfl ?_
      refine a_iload_n X 1 d_Dr_tellPlace_21 rfl rfl ?_
      refine a_iload X d_Dr_tellPlace_22 rfl ?_
      refine a_callV X (a := 168) (As := [.int (nI _), .int (nI _)]) hq_168 rfl fb_Dr_sumTelling lk_Dr_75 im_Dr_sumTelling se_Dr_sumTelling (c_Dr_sum hn hs (by omega) hp hos hob hlen) rfl rfl (Nat.le_of_ble_eq_true rfl) (by decide) (by decide) (Nat.le_refl _) (Nat.le_refl _) d_Dr_tellPlace_24 (fun v h1 hp => ?_)
      obtain ⟨rfl, rfl⟩ := hp
      refine a_lstore X d_Dr_tellPlace_27 (by decide) ?_
      refine a_lload X d_Dr_tellPlace_29 rfl ?_
      refine a_lload X d_Dr_tellPlace_31 rfl ?_
      refine a_lc_ge X 47 (by omega) (hsb x (by omega)) d_Dr_tellPlace_33 d_Dr_tellPlace_34 (by decide) (fun c33 => ?_) (fun c33 => ?_)
      ·
        refine a_lload X d_Dr_tellPlace_47 rfl ?_
        refine a_lload X d_Dr_tellPlace_49 rfl ?_
        refine a_lsub X d_Dr_tellPlace_51 ?_
        refine ab_topl (lN_sub c33) ?_
        refine ab_topl (congrArg lN (show lf - sumR (fun y0 => sumD s r.2.2 w d p y0) 0 x - sumD s r.2.2 w d p x = lf - sumR (fun y0 => sumD s r.2.2 w d p y0) 0 (x + 1) by rw [sumR_s]; omega)) ?_
        refine a_lstore X d_Dr_tellPlace_52 (by decide) ?_
        refine a_incN X d_Dr_tellPlace_54 rfl (by decide) ?_
        refine a_goto X 6 d_Dr_tellPlace_57 (by decide) ?_
        refine ab_sub [(0, .ref 169), (1, .int (nI p)), (4, .long (lN (lf - sumR (fun y0 => sumD s r.2.2 w d p y0) 0 (x + 1)))), (6, .int (nI (x + 1)))] rfl ?_
        exact ih (x + 1) (by omega) (by omega) (by rw [sumR_s]; omega)
      ·
        refine a_aload_n X 0 d_Dr_tellPlace_37 rfl rfl ?_
        refine a_iload_n X 1 d_Dr_tellPlace_38 rfl rfl ?_
        refine a_iload X d_Dr_tellPlace_39 rfl ?_
        refine a_callV X (a := 168) (As := [.int (nI _), .int (nI _)]) hq_168 rfl fb_Dr_take lk_Dr_79 im_Dr_take se_Dr_take (c_Dr_tak hs (by omega) (by omega) hos htd) rfl rfl (Nat.le_of_ble_eq_true rfl) (by decide) (by decide) (Nat.le_refl _) (Nat.le_refl _) d_Dr_tellPlace_41 (fun v h1 hp => ?_)
        obtain ⟨rfl, rfl⟩ := hp
        refine a_lload X d_Dr_tellPlace_44 rfl ?_
        exact a_lret X d_Dr_tellPlace_46 (Nat.le_refl _) (Nat.le_refl _) (Or.inl ⟨x, by omega, hle, by rw [sumR_s]; omega, rfl, rfl⟩)
set_option maxHeartbeats 4000000 in
set_option maxRecDepth 20000 in
theorem c_Dr_drw {E : ab_E} {l : Launch} {r : hR} {s : hS} {w c : hW} {b : hB} {d : hD} {k : hK} {t : hT} {Z : List ab_C} {lf : Nat} {I : hW → Nat → hD → Nat → Prop} (hr : okR r) (hs : okS s) (hk : w.2.2.2.2.2 = 0 ∨ w.2.2.2.2.2 = 1 ∧ okW id r s w) (hI : ∀ (w1 : hW) (p : Nat) (d1 : hD) (lf : Nat), okW id r s w1 → p < r.2.2 → I w1 p d1 lf → d1.2.2.2.2.2 = 1 ∧ d1.2.1 < 4 ∧ d1.2.2.1 ≤ p ∧ p - d1.2.2.1 ≤ 3 ∧ d1.2.2.2.2.1 < 2 ^ 20 ∧ lf < 2 ^ 63 ∧ (∀ x, x < 2 * s.2.2 → sumD s r.2.2 w1 (d1.1, d1.2.1, d1.2.2.1, opS s w1 d1 p, d1.2.2.2.2.1, d1.2.2.2.2.2) p x < 2 ^ 63) ∧ lf < sumR (fun y0 => sumD s r.2.2 w1 (d1.1, d1.2.1, d1.2.2.1, opS s w1 d1 p, d1.2.2.2.2.1, d1.2.2.2.2.2) p y0) 0 (2 * s.2.2) ∧ ∀ x, x < 2 * s.2.2 → sumR (fun y0 => sumD s r.2.2 w1 (d1.1, d1.2.1, d1.2.2.1, opS s w1 d1 p, d1.2.2.2.2.1, d1.2.2.2.2.2) p y0) 0 x ≤ lf → lf < sumR (fun y0 => sumD s r.2.2 w1 (d1.1, d1.2.1, d1.2.2.1, opS s w1 d1 p, d1.2.2.2.2.1, d1.2.2.2.2.2) p y0) 0 (x + 1) → I w1 (p + 1) (takD s (d1.1, d1.2.1, d1.2.2.1, opS s w1 d1 p, d1.2.2.2.2.1, d1.2.2.2.2.2) p x) (lf - sumR (fun y0 => sumD s r.2.2 w1 (d1.1, d1.2.1, d1.2.2.1, opS s w1 d1 p, d1.2.2.2.2.1, d1.2.2.2.2.2) p y0) 0 x)) (hE : ∀ (w1 : hW) (d1 : hD) (lf : Nat), okW id r s w1 → I w1 r.2.2 d1 lf → d1.2.1 < 4 ∧ d1.2.2.1 ≤ r.2.2) (h0 : ∀ w1, okW id r s w1 → I w1 0 (1, 0, 0, d.2.2.2.1, 0, 1) lf) : ab_Con E l y_Dr_draw b_Dr_draw 6 (some .long) 5 124 [.ref 169, .long (lN lf)] (hc r s w c b d k t ++ Z) 0 0 (fun v h1 => ∃ w1 : hW, okW id r s w1 ∧ w1.2.2.2.2.2 = 1 ∧ (w.2.2.2.2.2 = 1 → w1 = w) ∧ ∃ (d1 : hD) (lf1 : Nat), I w1 r.2.2 d1 lf1 ∧ v = some (.long (lN (d1.1 * opS s w1 d1 r.2.2 * s.1 d1.2.1 1))) ∧ h1 = hc r s w1 c b d1 k t ++ Z) := by
  have hn := hr.1
  have hq := hs.1
  refine ab_con (own := "HiddenRows$Drawing") (ini := false) (by decide) (fun h => by cases h) rfl (Nat.le_of_ble_eq_true rfl) ?_
  intro G m X
  show ab_R E G m 6 0 0 0 [(0, .ref 169), (1, .long (lN lf))] [] (hc r s w c b d k t ++ Z)
  refine a_aload_n X 0 d_Dr_draw_0 rfl rfl ?_
  refine a_get X ff_Dr_40 d_Dr_draw_1 hq_168 rfl ?_
  refine a_callV X (a := 15) (As := []) hq_15 rfl fb_Ws_refresh lk_Dr_48 im_Ws_refresh se_Ws_refresh (c_ref_w hr hs hk) rfl rfl (Nat.le_of_ble_eq_true rfl) (by decide) (by decide) (Nat.le_refl _) (Nat.le_refl _) d_Dr_draw_4 (fun v h1 hp => ?_)
  obtain ⟨rfl, w1, hok, hkn, hsm, rfl⟩ := hp
  refine a_aload_n X 0 d_Dr_draw_7 rfl rfl ?_
  refine a_iconst X (v := nI 1) d_Dr_draw_8 (by decide) ?_
  refine a_put X ff_Dr_28 d_Dr_draw_9 hq_168 (Nat.le_of_ble_eq_true rfl) rfl rfl ?_
  refine ab_hp hs_d ?_
  refine a_aload_n X 0 d_Dr_draw_12 rfl rfl ?_
  refine a_iconst X (v := nI 0) d_Dr_draw_13 (by decide) ?_
  refine a_put X ff_Dr_25 d_Dr_draw_14 hq_168 (Nat.le_of_ble_eq_true rfl) rfl rfl ?_
  refine ab_hp hs_d ?_
  refine a_aload_n X 0 d_Dr_draw_17 rfl rfl ?_
  refine a_lconst X (v := lN 1) d_Dr_draw_18 (by decide) ?_
  refine a_put X ff_Dr_9 d_Dr_draw_19 hq_168 (Nat.le_of_ble_eq_true rfl) rfl rfl ?_
  refine ab_hp hs_d ?_
  refine a_aload_n X 0 d_Dr_draw_22 rfl rfl ?_
  refine a_iconst X (v := nI 0) d_Dr_draw_23 (by decide) ?_
  refine a_put X ff_Dr_15 d_Dr_draw_24 hq_168 (Nat.le_of_ble_eq_true rfl) rfl rfl ?_
  refine ab_hp hs_d ?_
  refine a_aload_n X 0 d_Dr_draw_27 rfl rfl ?_
  refine a_iconst X (v := nI 0) d_Dr_draw_28 (by decide) ?_
  refine a_put X ff_Dr_19 d_Dr_draw_29 hq_168 (Nat.le_of_ble_eq_true rfl) rfl rfl ?_
  refine ab_hp hs_d ?_
  refine a_lload_n X 1 d_Dr_draw_32 rfl rfl ?_
  refine a_lstore_n X 3 d_Dr_draw_33 rfl (by decide) ?_
  refine a_iconst X (v := nI 0) d_Dr_draw_34 (by decide) ?_
  refine a_istore X d_Dr_draw_35 (by decide) ?_
  refine ab_sub [(0, .ref 169), (3, .long (lN lf)), (5, .int (nI 0))] rfl ?_
  suffices LP : ∀ (mm p : Nat) (d1 : hD) (lf : Nat), p ≤ r.2.2 → r.2.2 - p < mm → I w1 p d1 lf → ab_R E G m 6 0 0 37 [(0, .ref 169), (3, .long (lN lf)), (5, .int (nI p))] [] (hc r s w1 c b d1 k t ++ Z) from LP (r.2.2 + 1) 0 (1, 0, 0, d.2.2.2.1, 0, 1) lf (by omega) (by omega) (h0 w1 hok)
  intro mm
  induction mm with
  | zero => intro p d1 lf h1 h2 h3; exfalso; omega
  | succ mm ih =>
    intro p d1 lf h1 h2 hIv
    refine a_iload X d_Dr_draw_37 rfl ?_
    refine a_aload_n X 0 d_Dr_draw_39 rfl rfl ?_
    refine a_get X ff_Dr_32 d_Dr_draw_40 hq_168 rfl ?_
    refine a_get X ff_Dr_53 d_Dr_draw_43 hq_1 rfl ?_
    refine a_icmp_geN X 73 (by omega) (by omega) d_Dr_draw_46 (by decide) (fun c46 => ?_) (fun c46 => ?_)
    ·
      obtain rfl : p = r.2.2 := by omega
      obtain ⟨e1, e2⟩ := hE w1 d1 lf hok hIv
      refine a_aload_n X 0 d_Dr_draw_73 rfl rfl ?_
      refine a_get X ff_Dr_9 d_Dr_draw_74 hq_168 rfl ?_
      refine a_aload_n X 0 d_Dr_draw_77 rfl rfl ?_
      refine a_aload_n X 0 d_Dr_draw_78 rfl rfl ?_
      refine a_get X ff_Dr_32 d_Dr_draw_79 hq_168 rfl ?_
      refine a_get X ff_Dr_53 d_Dr_draw_82 hq_1 rfl ?_
      refine a_callV X (a := 168) (As := [.int (nI _)]) hq_168 rfl fb_Dr_openSegment lk_Dr_58 im_Dr_openSegment se_Dr_openSegment (c_Dr_ops hs.2.1 e2 hn e1) rfl rfl (Nat.le_of_ble_eq_true rfl) (by decide) (by decide) (Nat.le_refl _) (Nat.le_refl _) d_Dr_draw_85 (fun v h1 hp => ?_)
      obtain ⟨rfl, rfl⟩ := hp
      refine a_lmul X d_Dr_draw_88 ?_
      refine ab_topl (lN_mul _ _) ?_
      refine a_aload_n X 0 d_Dr_draw_89 rfl rfl ?_
      refine a_get X ff_Dr_36 d_Dr_draw_90 hq_168 rfl ?_
      refine a_get X ff_Dr_66 d_Dr_draw_93 hq_4 rfl ?_
      refine a_aload_n X 0 d_Dr_draw_96 rfl rfl ?_
      refine a_get X ff_Dr_15 d_Dr_draw_97 hq_168 rfl ?_
      refine a_aald X d_Dr_draw_100 hq_5 rfl rfl (ab_ix_nI (by omega) (by decide)) (hg_wt (by omega)) ?_
      refine a_iconst X (v := nI 1) d_Dr_draw_101 (by decide) ?_
      refine a_iald X d_Dr_draw_102 (hr_wt (by omega)) rfl (ab_ix_nI (by omega) (by decide)) ?_
      refine a_i2l X d_Dr_draw_103 ?_
      refine ab_topl (nI_l (by have := hs.2.1 d1.2.1 1; omega)) ?_
      refine a_lmul X d_Dr_draw_104 ?_
      refine ab_topl (lN_mul _ _) ?_
      exact a_lret X d_Dr_draw_105 (Nat.le_refl _) (Nat.le_refl _) ⟨w1, hok, hkn, hsm, d1, lf, hIv, rfl, rfl⟩
    ·
      obtain ⟨e0, e1, e2, e3, e4, e5, e6, e7, e8⟩ := hI w1 p d1 lf hok c46 hIv
      refine a_aload_n X 0 d_Dr_draw_49 rfl rfl ?_
      refine a_aload_n X 0 d_Dr_draw_50 rfl rfl ?_
      refine a_iload X d_Dr_draw_51 rfl ?_
      refine a_callV X (a := 168) (As := [.int (nI _)]) hq_168 rfl fb_Dr_openSegment lk_Dr_58 im_Dr_openSegment se_Dr_openSegment (c_Dr_ops hs.2.1 e2 (by omega) e1) rfl rfl (Nat.le_of_ble_eq_true rfl) (by decide) (by decide) (Nat.le_refl _) (Nat.le_refl _) d_Dr_draw_53 (fun v h1 hp => ?_)
      obtain ⟨rfl, rfl⟩ := hp
      refine a_put X ff_Dr_22 d_Dr_draw_56 hq_168 (Nat.le_of_ble_eq_true rfl) rfl rfl ?_
      refine ab_hp hs_d ?_
      refine a_aload_n X 0 d_Dr_draw_59 rfl rfl ?_
      refine a_iload X d_Dr_draw_60 rfl ?_
      refine a_lload_n X 3 d_Dr_draw_62 rfl rfl ?_
      refine a_callV X (a := 168) (As := [.int (nI _), .long (lN _)]) hq_168 rfl fb_Dr_tellPlace lk_Dr_62 im_Dr_tellPlace se_Dr_tellPlace (c_Dr_tel (d := (d1.1, d1.2.1, d1.2.2.1, opS s w1 d1 p, d1.2.2.2.2.1, d1.2.2.2.2.2)) hn hs c46 e1 e2 e3 e4 e5 e6) rfl rfl (Nat.le_of_ble_eq_true rfl) (by decide) (by decide) (Nat.le_refl _) (Nat.le_refl _) d_Dr_draw_63 (fun v h1 hp => ?_)
      rcases hp with ⟨x, g1, g2, g3, rfl, rfl⟩ | ⟨g1, -, -⟩
      ·
        refine a_lstore_n X 3 d_Dr_draw_66 rfl (by decide) ?_
        refine a_incN X d_Dr_draw_67 rfl (by decide) ?_
        refine a_goto X 37 d_Dr_draw_70 (by decide) ?_
        exact ab_sub _ rfl (ih (p + 1) _ _ (by omega) (by omega) (e8 x g1 g2 g3))
      · exact absurd g1 (by omega)
