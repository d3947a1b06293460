theorem ov_max {p : Nat} (hp : p < 6) : (if nI 0 < nI p - nI 3 + nI 1 then nI p - nI 3 + nI 1 else nI 0) = nI (p - 2) := by
  rcases (show p = 0 ∨ p = 1 ∨ p = 2 ∨ p = 3 ∨ p = 4 ∨ p = 5 by omega) with rfl | rfl | rfl | rfl | rfl | rfl <;> decide +kernel
set_option maxHeartbeats 4000000 in
set_option maxRecDepth 20000 in
theorem c_sfa_w {E : ab_E} {l : Launch} {r : hR} {s : hS} {w c : hW} {b : hB} {d : hD} {k : hK} {t : hT} {Z : List ab_C} (hr : okR r) (hs : okS s) : ab_Con E l y_Ws_sumFromAhead b_Ws_sumFromAhead 3 none 3 72 [.ref 16] (hc r s w c b d k t ++ Z) 0 0 (fun v h1 => v = none ∧ ∃ up en : hG, (∀ a b, a < r.2.2 → b < s.2.2 → en a b = if a = 0 then id (s.1 b 0) else intR id s up a b) ∧ (∀ a b, a < r.2.2 → b < s.2.2 → up (a + 1) b = endR id s w.1 en (a + 1) b) ∧ h1 = hc r s (w.1, w.2.1, w.2.2.1, up, en, w.2.2.2.2.2) c b d k t ++ Z) := by
  obtain ⟨hn, hsg⟩ := hr
  obtain ⟨hq, hw, hm⟩ := hs
  refine ab_con (own := "HiddenRows$WaySums") (ini := false) (by decide) (fun h => by cases h) rfl (Nat.le_of_ble_eq_true rfl) ?_
  intro G m X
  show ab_R E G m 3 0 0 0 [(0, .ref 16)] [] (hc r s w c b d k t ++ Z)
  refine a_iconst X (v := nI 0) d_Ws_sumFromAhead_0 (by decide) ?_
  refine a_istore_n X 1 d_Ws_sumFromAhead_1 rfl (by decide) ?_
  refine ab_sub [(0, .ref 16), (1, .int (nI 0))] rfl ?_
  suffices LP : ∀ (mm p : Nat) (up en : hG), (∀ a b, a < p → b < s.2.2 → en a b = if a = 0 then id (s.1 b 0) else intR id s up a b) → (∀ a b, a < p → b < s.2.2 → up (a + 1) b = endR id s w.1 en (a + 1) b) → p ≤ r.2.2 → r.2.2 - p < mm → ab_R E G m 3 0 0 2 [(0, .ref 16), (1, .int (nI p))] [] (hc r s (w.1, w.2.1, w.2.2.1, up, en, w.2.2.2.2.2) c b d k t ++ Z) from LP (r.2.2 + 1) 0 w.2.2.2.1 w.2.2.2.2.1 (fun a b h => by omega) (fun a b h => by omega) (by omega) (by omega)
  intro mm
  induction mm with
  | zero => intro p up en hE hU h1 h2; exfalso; omega
  | succ mm ih =>
    intro p up en hE hU h1 h2
    refine a_iload_n X 1 d_Ws_sumFromAhead_2 rfl rfl ?_
    refine a_aload_n X 0 d_Ws_sumFromAhead_3 rfl rfl ?_
    refine a_get X ff_Ws_32 d_Ws_sumFromAhead_4 hq_15 rfl ?_
    refine a_get X ff_Ws_47 d_Ws_sumFromAhead_7 hq_1 rfl ?_
    refine a_icmp_geN X 111 (by omega) (by omega) d_Ws_sumFromAhead_10 (by decide) (fun c10 => ?_) (fun c10 => ?_)
    ·
      exact a_vret X d_Ws_sumFromAhead_111 (Nat.le_refl _) (Nat.le_refl _) ⟨rfl, up, en, fun a b h hb => hE a b (by omega) hb, fun a b h hb => hU a b (by omega) hb, rfl⟩
    ·
      refine a_iconst X (v := nI 0) d_Ws_sumFromAhead_13 (by decide) ?_
      refine a_istore_n X 2 d_Ws_sumFromAhead_14 rfl (by decide) ?_
      refine ab_sub [(0, .ref 16), (1, .int (nI p)), (2, .int (nI 0))] rfl ?_
      suffices LP2 : ∀ (m2 y : Nat) (en : hG), (∀ a b, a < p → b < s.2.2 → en a b = if a = 0 then id (s.1 b 0) else intR id s up a b) → (∀ a b, a < p → b < s.2.2 → up (a + 1) b = endR id s w.1 en (a + 1) b) → (∀ b, b < y → en p b = if p = 0 then id (s.1 b 0) else intR id s up p b) → y ≤ s.2.2 → s.2.2 - y < m2 → ab_R E G m 3 0 0 15 [(0, .ref 16), (1, .int (nI p)), (2, .int (nI y))] [] (hc r s (w.1, w.2.1, w.2.2.1, up, en, w.2.2.2.2.2) c b d k t ++ Z) from LP2 (s.2.2 + 1) 0 en hE hU (fun b h => by omega) (by omega) (by omega)
      clear hE hU en
      intro m2
      induction m2 with
      | zero => intro y en hE hU hP h3 h4; exfalso; omega
      | succ m2 ih2 =>
        intro y en hE hU hP h3 h4
        refine a_iload_n X 2 d_Ws_sumFromAhead_15 rfl rfl ?_
        refine a_aload_n X 0 d_Ws_sumFromAhead_16 rfl rfl ?_
        refine a_get X ff_Ws_36 d_Ws_sumFromAhead_17 hq_15 rfl ?_
        refine a_get X ff_Ws_52 d_Ws_sumFromAhead_20 hq_4 rfl ?_
        refine a_icmp_geN X 68 (by omega) (by omega) d_Ws_sumFromAhead_23 (by decide) (fun c23 => ?_) (fun c23 => ?_)
        ·
          refine a_iconst X (v := nI 0) d_Ws_sumFromAhead_68 (by decide) ?_
          refine a_istore_n X 2 d_Ws_sumFromAhead_69 rfl (by decide) ?_
          refine ab_sub [(0, .ref 16), (1, .int (nI p)), (2, .int (nI 0))] rfl ?_
          suffices LP3 : ∀ (m3 y : Nat) (up : hG), (∀ a b, a < p + 1 → b < s.2.2 → en a b = if a = 0 then id (s.1 b 0) else intR id s up a b) → (∀ a b, a < p → b < s.2.2 → up (a + 1) b = endR id s w.1 en (a + 1) b) → (∀ b, b < y → up (p + 1) b = endR id s w.1 en (p + 1) b) → y ≤ s.2.2 → s.2.2 - y < m3 → ab_R E G m 3 0 0 70 [(0, .ref 16), (1, .int (nI p)), (2, .int (nI y))] [] (hc r s (w.1, w.2.1, w.2.2.1, up, en, w.2.2.2.2.2) c b d k t ++ Z) from LP3 (s.2.2 + 1) 0 up (fun a b h1 h2 => by
            by_cases e : a = p
            · subst e
              exact hP b (by omega)
            · exact hE a b (by omega) h2) hU (fun b h => by omega) (by omega) (by omega)
          clear hE hU hP ih2 up
          intro m3
          induction m3 with
          | zero => intro y up hE hU hP h3 h4; exfalso; omega
          | succ m3 ih3 =>
            intro y up hE hU hP h3 h4
            refine a_iload_n X 2 d_Ws_sumFromAhead_70 rfl rfl ?_
            refine a_aload_n X 0 d_Ws_sumFromAhead_71 rfl rfl ?_
            refine a_get X ff_Ws_36 d_Ws_sumFromAhead_72 hq_15 rfl ?_
            refine a_get X ff_Ws_52 d_Ws_sumFromAhead_75 hq_4 rfl ?_
            refine a_icmp_geN X 105 (by omega) (by omega) d_Ws_sumFromAhead_78 (by decide) (fun c78 => ?_) (fun c78 => ?_)
            ·
              refine a_incN X d_Ws_sumFromAhead_105 rfl (by decide) ?_
              refine a_goto X 2 d_Ws_sumFromAhead_108 (by decide) ?_
              refine ab_sub [(0, .ref 16), (1, .int (nI (p + 1)))] rfl ?_
              exact ih (p + 1) up en hE (fun a b h1 h2 => by
                by_cases e : a = p
                · subst e
                  exact hP b (by omega)
                · exact hU a b (by omega) h2) (by omega) (by omega)
            ·
              refine a_aload_n X 0 d_Ws_sumFromAhead_81 rfl rfl ?_
              refine a_get X ff_Ws_22 d_Ws_sumFromAhead_82 hq_15 rfl ?_
              refine a_iload_n X 1 d_Ws_sumFromAhead_85 rfl rfl ?_
              refine a_iconst X (v := nI 1) d_Ws_sumFromAhead_86 (by decide) ?_
              refine a_iadd X d_Ws_sumFromAhead_87 ?_
              refine ab_topi (nI_add _ _) ?_
              refine a_aald X d_Ws_sumFromAhead_88 hq_38 rfl rfl (ab_ix_nI (by omega) (by decide)) (hg_up (by omega)) ?_
              refine a_iload_n X 2 d_Ws_sumFromAhead_89 rfl rfl ?_
              refine a_aload_n X 0 d_Ws_sumFromAhead_90 rfl rfl ?_
              refine a_iload_n X 1 d_Ws_sumFromAhead_91 rfl rfl ?_
              refine a_iconst X (v := nI 1) d_Ws_sumFromAhead_92 (by decide) ?_
              refine a_iadd X d_Ws_sumFromAhead_93 ?_
              refine ab_topi (nI_add _ _) ?_
              refine a_iload_n X 2 d_Ws_sumFromAhead_94 rfl rfl ?_
              refine a_callV X (a := 15) (As := [.int (nI _), .int (nI _)]) hq_15 rfl fb_Ws_endedBefore lk_Ws_107 im_Ws_endedBefore se_Ws_endedBefore (c_end_w hw (by omega) (by omega)) rfl rfl (Nat.le_of_ble_eq_true rfl) (by decide) (by decide) (Nat.le_refl _) (Nat.le_refl _) d_Ws_sumFromAhead_95 (fun v h1 hp => ?_)
              obtain ⟨rfl, rfl⟩ := hp
              refine a_last X d_Ws_sumFromAhead_98 (hr_up (by omega)) rfl (ab_ix_nI (by omega) (by decide)) ?_
              refine ab_hp (hw_up (by omega)) ?_
              refine a_incN X d_Ws_sumFromAhead_99 rfl (by decide) ?_
              refine a_goto X 70 d_Ws_sumFromAhead_102 (by decide) ?_
              refine ab_sub [(0, .ref 16), (1, .int (nI p)), (2, .int (nI (y + 1)))] rfl ?_
              exact ih3 (y + 1) (up2 up (p + 1) y (endR id s w.1 en (p + 1) y)) (fun a b h1 h2 => by rw [intR_congr (f' := up) (up2_row (by omega))]; exact hE a b h1 h2) (fun a b h1 h2 => by rw [up2_row (by omega)]; exact hU a b h1 h2) (fun b h => by
                rw [up2_at]
                split
                · next e => rw [e.2]
                · exact hP b (by omega)) (by omega) (by omega)
        ·
          refine a_aload_n X 0 d_Ws_sumFromAhead_26 rfl rfl ?_
          refine a_get X ff_Ws_25 d_Ws_sumFromAhead_27 hq_15 rfl ?_
          refine a_iload_n X 1 d_Ws_sumFromAhead_30 rfl rfl ?_
          refine a_aald X d_Ws_sumFromAhead_31 hq_46 rfl rfl (ab_ix_nI (by omega) (by decide)) (hg_en (by omega)) ?_
          refine a_iload_n X 2 d_Ws_sumFromAhead_32 rfl rfl ?_
          refine a_iload_n X 1 d_Ws_sumFromAhead_33 rfl rfl ?_
          refine a_if_neN X 55 (by omega) d_Ws_sumFromAhead_34 (by decide) (fun c34 => ?_) (fun c34 => ?_)
          ·
            have hv : intR id s up p y = if p = 0 then id (s.1 y 0) else intR id s up p y := by rw [if_neg (by omega)]
            refine a_aload_n X 0 d_Ws_sumFromAhead_55 rfl rfl ?_
            refine a_iload_n X 1 d_Ws_sumFromAhead_56 rfl rfl ?_
            refine a_iload_n X 2 d_Ws_sumFromAhead_57 rfl rfl ?_
            refine a_callV X (a := 15) (As := [.int (nI _), .int (nI _)]) hq_15 rfl fb_Ws_movedInto lk_Ws_104 im_Ws_movedInto se_Ws_movedInto (c_int_w hm hq (by omega) (by omega)) rfl rfl (Nat.le_of_ble_eq_true rfl) (by decide) (by decide) (Nat.le_refl _) (Nat.le_refl _) d_Ws_sumFromAhead_58 (fun v h1 hp => ?_)
            obtain ⟨rfl, rfl⟩ := hp
            refine ab_topl (congrArg lN hv) ?_
            refine a_last X d_Ws_sumFromAhead_61 (hr_en (by omega)) rfl (ab_ix_nI (by omega) (by decide)) ?_
            refine ab_hp (hw_en (by omega)) ?_
            refine a_incN X d_Ws_sumFromAhead_62 rfl (by decide) ?_
            refine a_goto X 15 d_Ws_sumFromAhead_65 (by decide) ?_
            refine ab_sub [(0, .ref 16), (1, .int (nI p)), (2, .int (nI (y + 1)))] rfl ?_
            exact ih2 (y + 1) (up2 en p y (if p = 0 then id (s.1 y 0) else intR id s up p y)) (fun a b h1 h2 => by rw [up2_row (by omega)]; exact hE a b h1 h2) (fun a b h1 h2 => by rw [endR_congr (g' := en) (fun z hz => by rw [up2_row (by omega)])]; exact hU a b h1 h2) (fun b h => by
              by_cases e : b = y
              · subst e
                rw [up2_self]
              · rw [up2_ne (fun q => e q.2)]
                exact hP b (by omega)) (by omega) (by omega)
          ·
            have hv : id (s.1 y 0) = if p = 0 then id (s.1 y 0) else intR id s up p y := by rw [if_pos (by omega)]
            refine a_aload_n X 0 d_Ws_sumFromAhead_37 rfl rfl ?_
            refine a_aload_n X 0 d_Ws_sumFromAhead_38 rfl rfl ?_
            refine a_get X ff_Ws_36 d_Ws_sumFromAhead_39 hq_15 rfl ?_
            refine a_get X ff_Ws_78 d_Ws_sumFromAhead_42 hq_4 rfl ?_
            refine a_iload_n X 2 d_Ws_sumFromAhead_45 rfl rfl ?_
            refine a_aald X d_Ws_sumFromAhead_46 hq_5 rfl rfl (ab_ix_nI (by omega) (by decide)) (hg_wt (by omega)) ?_
            refine a_iconst X (v := nI 0) d_Ws_sumFromAhead_47 (by decide) ?_
            refine a_iald X d_Ws_sumFromAhead_48 (hr_wt (by omega)) rfl (ab_ix_nI (by omega) (by decide)) ?_
            refine a_callV X (a := 15) (As := [.int (nI _)]) hq_15 rfl fb_Ws_cut lk_Ws_71 im_Ws_cut se_Ws_cut (c_cut_w (by have := hw y 0; omega)) rfl rfl (Nat.le_of_ble_eq_true rfl) (by decide) (by decide) (Nat.le_refl _) (Nat.le_refl _) d_Ws_sumFromAhead_49 (fun v h1 hp => ?_)
            obtain ⟨rfl, rfl⟩ := hp
            refine a_goto X 61 d_Ws_sumFromAhead_52 (by decide) ?_
            refine ab_topl (congrArg lN hv) ?_
            refine a_last X d_Ws_sumFromAhead_61 (hr_en (by omega)) rfl (ab_ix_nI (by omega) (by decide)) ?_
            refine ab_hp (hw_en (by omega)) ?_
            refine a_incN X d_Ws_sumFromAhead_62 rfl (by decide) ?_
            refine a_goto X 15 d_Ws_sumFromAhead_65 (by decide) ?_
            refine ab_sub [(0, .ref 16), (1, .int (nI p)), (2, .int (nI (y + 1)))] rfl ?_
            exact ih2 (y + 1) (up2 en p y (if p = 0 then id (s.1 y 0) else intR id s up p y)) (fun a b h1 h2 => by rw [up2_row (by omega)]; exact hE a b h1 h2) (fun a b h1 h2 => by rw [endR_congr (g' := en) (fun z hz => by rw [up2_row (by omega)])]; exact hU a b h1 h2) (fun b h => by
              by_cases e : b = y
              · subst e
                rw [up2_self]
              · rw [up2_ne (fun q => e q.2)]
                exact hP b (by omega)) (by omega) (by omega)
set_option maxHeartbeats 4000000 in
set_option maxRecDepth 20000 in
theorem c_ref_w {E : ab_E} {l : Launch} {r : hR} {s : hS} {w c : hW} {b : hB} {d : hD} {k : hK} {t : hT} {Z : List ab_C} (hr : okR r) (hs : okS s) (hk : w.2.2.2.2.2 = 0 ∨ w.2.2.2.2.2 = 1 ∧ okW id r s w) : ab_Con E l y_Ws_refresh b_Ws_refresh 1 none 4 95 [.ref 16] (hc r s w c b d k t ++ Z) 0 0 (fun v h1 => v = none ∧ ∃ w1 : hW, okW id r s w1 ∧ w1.2.2.2.2.2 = 1 ∧ (w.2.2.2.2.2 = 1 → w1 = w) ∧ h1 = hc r s w1 c b d k t ++ Z) := by
  have hk1 : w.2.2.2.2.2 < 2 ^ 31 := by rcases hk with h | h <;> omega
  refine ab_con (own := "HiddenRows$WaySums") (ini := false) (by decide) (fun h => by cases h) rfl (Nat.le_of_ble_eq_true rfl) ?_
  intro G m X
  show ab_R E G m 1 0 0 0 [(0, .ref 16)] [] (hc r s w c b d k t ++ Z)
  refine a_aload_n X 0 d_Ws_refresh_0 rfl rfl ?_
  refine a_get X ff_Ws_28 d_Ws_refresh_1 hq_15 rfl ?_
  refine a_if_eqN X 8 (by omega) d_Ws_refresh_4 (by decide) (fun c4 => ?_) (fun c4 => ?_)
  ·
    refine a_aload_n X 0 d_Ws_refresh_8 rfl rfl ?_
    refine a_iconst X (v := nI 1) d_Ws_refresh_9 (by decide) ?_
    refine a_put X ff_Ws_28 d_Ws_refresh_10 hq_15 (Nat.le_of_ble_eq_true rfl) rfl rfl ?_
    refine ab_hp hs_wk ?_
    refine a_aload_n X 0 d_Ws_refresh_13 rfl rfl ?_
    refine a_callV X (a := 15) (As := []) hq_15 rfl fb_Ws_showPlaces lk_Ws_81 im_Ws_showPlaces se_Ws_showPlaces (c_shp_w hr hs) rfl rfl (Nat.le_of_ble_eq_true rfl) (by decide) (by decide) (Nat.le_refl _) (Nat.le_refl _) d_Ws_refresh_14 (fun v h1 hp => ?_)
    obtain ⟨rfl, sh, hsh, rfl⟩ := hp
    refine a_aload_n X 0 d_Ws_refresh_17 rfl rfl ?_
    refine a_callV X (a := 15) (As := []) hq_15 rfl fb_Ws_sumFromBehind lk_Ws_84 im_Ws_sumFromBehind se_Ws_sumFromBehind (c_sfb_w hr hs) rfl rfl (Nat.le_of_ble_eq_true rfl) (by decide) (by decide) (Nat.le_refl _) (Nat.le_refl _) d_Ws_refresh_18 (fun v h1 hp => ?_)
    obtain ⟨rfl, fr, le, h1, h2, h3, rfl⟩ := hp
    refine a_aload_n X 0 d_Ws_refresh_21 rfl rfl ?_
    refine a_callV X (a := 15) (As := []) hq_15 rfl fb_Ws_sumFromAhead lk_Ws_87 im_Ws_sumFromAhead se_Ws_sumFromAhead (c_sfa_w hr hs) rfl rfl (Nat.le_of_ble_eq_true rfl) (by decide) (by decide) (Nat.le_refl _) (Nat.le_refl _) d_Ws_refresh_22 (fun v h1 hp => ?_)
    obtain ⟨rfl, up, en, h4, h5, rfl⟩ := hp
    exact a_vret X d_Ws_refresh_25 (Nat.le_refl _) (Nat.le_refl _) ⟨rfl, (sh, fr, le, up, en, 1), ⟨hsh, h1, h2, h3, h4, h5⟩, rfl, fun q => by omega, rfl⟩
  ·
    exact a_vret X d_Ws_refresh_7 (Nat.le_refl _) (Nat.le_refl _) ⟨rfl, w, (hk.resolve_left (by omega)).2, (hk.resolve_left (by omega)).1, fun _ => rfl, rfl⟩
set_option maxHeartbeats 4000000 in
set_option maxRecDepth 20000 in
theorem c_beg_w {E : ab_E} {l : Launch} {r : hR} {s : hS} {w c : hW} {b : hB} {d : hD} {k : hK} {t : hT} {Z : List ab_C} (hr : okR r) (hs : okS s) (hk : w.2.2.2.2.2 = 0 ∨ w.2.2.2.2.2 = 1 ∧ okW id r s w) {p st : Nat} (hp : p < 6) (hst : st < 4) : ab_Con E l y_Ws_beginning b_Ws_beginning 3 (some .long) 5 115 [.ref 16, .int (nI p), .int (nI st)] (hc r s w c b d k t ++ Z) 0 0 (fun v h1 => ∃ w1 : hW, okW id r s w1 ∧ w1.2.2.2.2.2 = 1 ∧ (w.2.2.2.2.2 = 1 → w1 = w) ∧ v = some (.long (lN (w1.2.2.2.2.1 p st * w1.2.1 p st))) ∧ h1 = hc r s w1 c b d k t ++ Z) := by
  refine ab_con (own := "HiddenRows$WaySums") (ini := false) (by decide) (fun h => by cases h) rfl (Nat.le_of_ble_eq_true rfl) ?_
  intro G m X
  show ab_R E G m 3 0 0 0 [(0, .ref 16), (1, .int (nI p)), (2, .int (nI st))] [] (hc r s w c b d k t ++ Z)
  refine a_aload_n X 0 d_Ws_beginning_0 rfl rfl ?_
  refine a_callV X (a := 15) (As := []) hq_15 rfl fb_Ws_refresh lk_Ws_44 im_Ws_refresh se_Ws_refresh (c_ref_w hr hs hk) rfl rfl (Nat.le_of_ble_eq_true rfl) (by decide) (by decide) (Nat.le_refl _) (Nat.le_refl _) d_Ws_beginning_1 (fun v h1 hp => ?_)
  obtain ⟨rfl, w1, hok, hkn, hsm, rfl⟩ := hp
  refine a_aload_n X 0 d_Ws_beginning_4 rfl rfl ?_
  refine a_get X ff_Ws_25 d_Ws_beginning_5 hq_15 rfl ?_
  refine a_iload_n X 1 d_Ws_beginning_8 rfl rfl ?_
  refine a_aald X d_Ws_beginning_9 hq_46 rfl rfl (ab_ix_nI (by omega) (by decide)) (hg_en (by omega)) ?_
  refine a_iload_n X 2 d_Ws_beginning_10 rfl rfl ?_
  refine a_lald X d_Ws_beginning_11 (hr_en (by omega)) rfl (ab_ix_nI (by omega) (by decide)) ?_
  refine a_aload_n X 0 d_Ws_beginning_12 rfl rfl ?_
  refine a_get X ff_Ws_16 d_Ws_beginning_13 hq_15 rfl ?_
  refine a_iload_n X 1 d_Ws_beginning_16 rfl rfl ?_
  refine a_aald X d_Ws_beginning_17 hq_23 rfl rfl (ab_ix_nI (by omega) (by decide)) (hg_fr (by omega)) ?_
  refine a_iload_n X 2 d_Ws_beginning_18 rfl rfl ?_
  refine a_lald X d_Ws_beginning_19 (hr_fr (by omega)) rfl (ab_ix_nI (by omega) (by decide)) ?_
  refine a_lmul X d_Ws_beginning_20 ?_
  refine ab_topl (lN_mul _ _) ?_
  exact a_lret X d_Ws_beginning_21 (Nat.le_refl _) (Nat.le_refl _) ⟨w1, hok, hkn, hsm, rfl, rfl⟩
set_option maxHeartbeats 4000000 in
set_option maxRecDepth 20000 in
theorem c_mov_w {E : ab_E} {l : Launch} {r : hR} {s : hS} {w c : hW} {b : hB} {d : hD} {k : hK} {t : hT} {Z : List ab_C} (hr : okR r) (hs : okS s) (hk : w.2.2.2.2.2 = 0 ∨ w.2.2.2.2.2 = 1 ∧ okW id r s w) {p sa sb : Nat} (hp : p < 6) (hsa : sa < 4) (hsb : sb < 4) : ab_Con E l y_Ws_moving b_Ws_moving 4 (some .long) 5 115 [.ref 16, .int (nI p), .int (nI sa), .int (nI sb)] (hc r s w c b d k t ++ Z) 0 0 (fun v h1 => ∃ w1 : hW, okW id r s w1 ∧ w1.2.2.2.2.2 = 1 ∧ (w.2.2.2.2.2 = 1 → w1 = w) ∧ v = some (.long (lN (w1.2.2.2.1 p sa * id (s.2.1 sa sb) * w1.2.1 p sb))) ∧ h1 = hc r s w1 c b d k t ++ Z) := by
  refine ab_con (own := "HiddenRows$WaySums") (ini := false) (by decide) (fun h => by cases h) rfl (Nat.le_of_ble_eq_true rfl) ?_
  intro G m X
  show ab_R E G m 4 0 0 0 [(0, .ref 16), (1, .int (nI p)), (2, .int (nI sa)), (3, .int (nI sb))] [] (hc r s w c b d k t ++ Z)
  refine a_aload_n X 0 d_Ws_moving_0 rfl rfl ?_
  refine a_callV X (a := 15) (As := []) hq_15 rfl fb_Ws_refresh lk_Ws_44 im_Ws_refresh se_Ws_refresh (c_ref_w hr hs hk) rfl rfl (Nat.le_of_ble_eq_true rfl) (by decide) (by decide) (Nat.le_refl _) (Nat.le_refl _) d_Ws_moving_1 (fun v h1 hp => ?_)
  obtain ⟨rfl, w1, hok, hkn, hsm, rfl⟩ := hp
  refine a_aload_n X 0 d_Ws_moving_4 rfl rfl ?_
  refine a_get X ff_Ws_22 d_Ws_moving_5 hq_15 rfl ?_
  refine a_iload_n X 1 d_Ws_moving_8 rfl rfl ?_
  refine a_aald X d_Ws_moving_9 hq_38 rfl rfl (ab_ix_nI (by omega) (by decide)) (hg_up (by omega)) ?_
  refine a_iload_n X 2 d_Ws_moving_10 rfl rfl ?_
  refine a_lald X d_Ws_moving_11 (hr_up (by omega)) rfl (ab_ix_nI (by omega) (by decide)) ?_
  refine a_aload_n X 0 d_Ws_moving_12 rfl rfl ?_
  refine a_aload_n X 0 d_Ws_moving_13 rfl rfl ?_
  refine a_get X ff_Ws_36 d_Ws_moving_14 hq_15 rfl ?_
  refine a_get X ff_Ws_67 d_Ws_moving_17 hq_4 rfl ?_
  refine a_iload_n X 2 d_Ws_moving_20 rfl rfl ?_
  refine a_aald X d_Ws_moving_21 hq_10 rfl rfl (ab_ix_nI (by omega) (by decide)) (hg_mv (by omega)) ?_
  refine a_iload_n X 3 d_Ws_moving_22 rfl rfl ?_
  refine a_iald X d_Ws_moving_23 (hr_mv (by omega)) rfl (ab_ix_nI (by omega) (by decide)) ?_
  refine a_callV X (a := 15) (As := [.int (nI _)]) hq_15 rfl fb_Ws_cut lk_Ws_71 im_Ws_cut se_Ws_cut (c_cut_w (by have := hs.2.2 sa sb; omega)) rfl rfl (Nat.le_of_ble_eq_true rfl) (by decide) (by decide) (Nat.le_refl _) (Nat.le_refl _) d_Ws_moving_24 (fun v h1 hp => ?_)
  obtain ⟨rfl, rfl⟩ := hp
  refine a_lmul X d_Ws_moving_27 ?_
  refine ab_topl (lN_mul _ _) ?_
  refine a_aload_n X 0 d_Ws_moving_28 rfl rfl ?_
  refine a_get X ff_Ws_16 d_Ws_moving_29 hq_15 rfl ?_
  refine a_iload_n X 1 d_Ws_moving_32 rfl rfl ?_
  refine a_aald X d_Ws_moving_33 hq_23 rfl rfl (ab_ix_nI (by omega) (by decide)) (hg_fr (by omega)) ?_
  refine a_iload_n X 3 d_Ws_moving_34 rfl rfl ?_
  refine a_lald X d_Ws_moving_35 (hr_fr (by omega)) rfl (ab_ix_nI (by omega) (by decide)) ?_
  refine a_lmul X d_Ws_moving_36 ?_
  refine ab_topl (lN_mul _ _) ?_
  exact a_lret X d_Ws_moving_37 (Nat.le_refl _) (Nat.le_refl _) ⟨w1, hok, hkn, hsm, rfl, rfl⟩
set_option maxHeartbeats 4000000 in
set_option maxRecDepth 20000 in
theorem c_who_w {E : ab_E} {l : Launch} {r : hR} {s : hS} {w c : hW} {b : hB} {d : hD} {k : hK} {t : hT} {Z : List ab_C} (hr : okR r) (hs : okS s) (hk : w.2.2.2.2.2 = 0 ∨ w.2.2.2.2.2 = 1 ∧ okW id r s w) : ab_Con E l y_Ws_whole b_Ws_whole 4 (some .long) 5 115 [.ref 16] (hc r s w c b d k t ++ Z) 0 0 (fun v h1 => ∃ w1 : hW, okW id r s w1 ∧ w1.2.2.2.2.2 = 1 ∧ (w.2.2.2.2.2 = 1 → w1 = w) ∧ v = some (.long (lN (if r.2.2 = 0 then 0 else sumR (fun y => w1.2.2.2.2.1 0 y * w1.2.1 0 y) 0 s.2.2))) ∧ h1 = hc r s w1 c b d k t ++ Z) := by
  refine ab_con (own := "HiddenRows$WaySums") (ini := false) (by decide) (fun h => by cases h) rfl (Nat.le_of_ble_eq_true rfl) ?_
  intro G m X
  show ab_R E G m 4 0 0 0 [(0, .ref 16)] [] (hc r s w c b d k t ++ Z)
  refine a_aload_n X 0 d_Ws_whole_0 rfl rfl ?_
  refine a_callV X (a := 15) (As := []) hq_15 rfl fb_Ws_refresh lk_Ws_44 im_Ws_refresh se_Ws_refresh (c_ref_w hr hs hk) rfl rfl (Nat.le_of_ble_eq_true rfl) (by decide) (by decide) (Nat.le_refl _) (Nat.le_refl _) d_Ws_whole_1 (fun v h1 hp => ?_)
  obtain ⟨rfl, w1, hok, hkn, hsm, rfl⟩ := hp
  refine a_lconst X (v := lN 0) d_Ws_whole_4 (by decide) ?_
  refine a_lstore_n X 1 d_Ws_whole_5 rfl (by decide) ?_
  refine a_aload_n X 0 d_Ws_whole_6 rfl rfl ?_
  refine a_get X ff_Ws_32 d_Ws_whole_7 hq_15 rfl ?_
  refine a_get X ff_Ws_47 d_Ws_whole_10 hq_1 rfl ?_
  have hn := hr.1
  have hq := hs.1
  refine a_if_leN X 55 (by omega) d_Ws_whole_13 (by decide) (fun c13 => ?_) (fun c13 => ?_)
  ·
    refine a_lload_n X 1 d_Ws_whole_55 rfl rfl ?_
    exact a_lret X d_Ws_whole_56 (Nat.le_refl _) (Nat.le_refl _) ⟨w1, hok, hkn, hsm, by rw [if_pos (by omega)], rfl⟩
  ·
    refine a_iconst X (v := nI 0) d_Ws_whole_16 (by decide) ?_
    refine a_istore_n X 3 d_Ws_whole_17 rfl (by decide) ?_
    refine ab_sub [(0, .ref 16), (1, .long (lN (sumR (fun y => w1.2.2.2.2.1 0 y * w1.2.1 0 y) 0 0))), (3, .int (nI 0))] rfl ?_
    suffices LP : ∀ (mm i : Nat), i ≤ s.2.2 → s.2.2 - i < mm → ab_R E G m 4 0 0 18 [(0, .ref 16), (1, .long (lN (sumR (fun y => w1.2.2.2.2.1 0 y * w1.2.1 0 y) 0 i))), (3, .int (nI i))] [] (hc r s w1 c b d k t ++ Z) from LP (s.2.2 + 1) 0 (by omega) (by omega)
    intro mm
    induction mm with
    | zero => intro i h1 h2; exfalso; omega
    | succ mm ih =>
      intro i h1 h2
      refine a_iload_n X 3 d_Ws_whole_18 rfl rfl ?_
      refine a_aload_n X 0 d_Ws_whole_19 rfl rfl ?_
      refine a_get X ff_Ws_36 d_Ws_whole_20 hq_15 rfl ?_
      refine a_get X ff_Ws_52 d_Ws_whole_23 hq_4 rfl ?_
      refine a_icmp_geN X 55 (by omega) (by omega) d_Ws_whole_26 (by decide) (fun c26 => ?_) (fun c26 => ?_)
      ·
        refine a_lload_n X 1 d_Ws_whole_55 rfl rfl ?_
        exact a_lret X d_Ws_whole_56 (Nat.le_refl _) (Nat.le_refl _) ⟨w1, hok, hkn, hsm, by rw [if_neg (by omega), show i = s.2.2 by omega], rfl⟩
      ·
        refine a_lload_n X 1 d_Ws_whole_29 rfl rfl ?_
        refine a_aload_n X 0 d_Ws_whole_30 rfl rfl ?_
        refine a_get X ff_Ws_25 d_Ws_whole_31 hq_15 rfl ?_
        refine a_iconst X (v := nI 0) d_Ws_whole_34 (by decide) ?_
        refine a_aald X d_Ws_whole_35 hq_46 rfl rfl (ab_ix_nI (by omega) (by decide)) (hg_en (by omega)) ?_
        refine a_iload_n X 3 d_Ws_whole_36 rfl rfl ?_
        refine a_lald X d_Ws_whole_37 (hr_en (i := 0) (by omega)) rfl (ab_ix_nI (by omega) (by decide)) ?_
        refine a_aload_n X 0 d_Ws_whole_38 rfl rfl ?_
        refine a_get X ff_Ws_16 d_Ws_whole_39 hq_15 rfl ?_
        refine a_iconst X (v := nI 0) d_Ws_whole_42 (by decide) ?_
        refine a_aald X d_Ws_whole_43 hq_23 rfl rfl (ab_ix_nI (by omega) (by decide)) (hg_fr (by omega)) ?_
        refine a_iload_n X 3 d_Ws_whole_44 rfl rfl ?_
        refine a_lald X d_Ws_whole_45 (hr_fr (i := 0) (by omega)) rfl (ab_ix_nI (by omega) (by decide)) ?_
        refine a_lmul X d_Ws_whole_46 ?_
        refine ab_topl (lN_mul _ _) ?_
        refine a_ladd X d_Ws_whole_47 ?_
        refine ab_topl (lN_add _ _) ?_
        refine ab_topl (congrArg lN (show _ = sumR (fun y => w1.2.2.2.2.1 0 y * w1.2.1 0 y) 0 (i + 1) from by show _ = sumR _ 0 i + _ * _; rw [Nat.zero_add])) ?_
        refine a_lstore_n X 1 d_Ws_whole_48 rfl (by decide) ?_
        refine a_incN X d_Ws_whole_49 rfl (by decide) ?_
        refine a_goto X 18 d_Ws_whole_52 (by decide) ?_
        refine ab_sub [(0, .ref 16), (1, .long (lN (sumR (fun y => w1.2.2.2.2.1 0 y * w1.2.1 0 y) 0 (i + 1)))), (3, .int (nI (i + 1)))] rfl ?_
        exact ih (i + 1) (by omega) (by omega)
set_option maxHeartbeats 4000000 in
set_option maxRecDepth 20000 in
theorem c_ove_w {E : ab_E} {l : Launch} {r : hR} {s : hS} {w c : hW} {b : hB} {d : hD} {k : hK} {t : hT} {Z : List ab_C} (hr : okR r) (hs : okS s) (hk : w.2.2.2.2.2 = 0 ∨ w.2.2.2.2.2 = 1 ∧ okW id r s w) {p st : Nat} (hp : p < r.2.2) (hst : st < 4) : ab_Con E l y_Ws_over b_Ws_over 6 (some .long) 5 115 [.ref 16, .int (nI p), .int (nI st)] (hc r s w c b d k t ++ Z) 0 0 (fun v h1 => ∃ w1 : hW, okW id r s w1 ∧ w1.2.2.2.2.2 = 1 ∧ (w.2.2.2.2.2 = 1 → w1 = w) ∧ v = some (.long (lN (sumR (fun y => w1.2.2.2.2.1 y st * lonR id s r.2.2 w1.1 w1.2.2.1 (p - y) y st) (p - 2) (p + 1 - (p - 2))))) ∧ h1 = hc r s w1 c b d k t ++ Z) := by
  have hn := hr.1
  refine ab_con (own := "HiddenRows$WaySums") (ini := false) (by decide) (fun h => by cases h) rfl (Nat.le_of_ble_eq_true rfl) ?_
  intro G m X
  show ab_R E G m 6 0 0 0 [(0, .ref 16), (1, .int (nI p)), (2, .int (nI st))] [] (hc r s w c b d k t ++ Z)
  refine a_aload_n X 0 d_Ws_over_0 rfl rfl ?_
  refine a_callV X (a := 15) (As := []) hq_15 rfl fb_Ws_refresh lk_Ws_44 im_Ws_refresh se_Ws_refresh (c_ref_w hr hs hk) rfl rfl (Nat.le_of_ble_eq_true rfl) (by decide) (by decide) (Nat.le_refl _) (Nat.le_refl _) d_Ws_over_1 (fun v h1 hp => ?_)
  obtain ⟨rfl, w1, hok, hkn, hsm, rfl⟩ := hp
  refine a_lconst X (v := lN 0) d_Ws_over_4 (by decide) ?_
  refine a_lstore_n X 3 d_Ws_over_5 rfl (by decide) ?_
  refine a_iconst X (v := nI 0) d_Ws_over_6 (by decide) ?_
  refine a_iload_n X 1 d_Ws_over_7 rfl rfl ?_
  refine a_iconst X (v := nI 3) d_Ws_over_8 (by decide) ?_
  refine a_isub X d_Ws_over_9 ?_
  skip
  refine a_iconst X (v := nI 1) d_Ws_over_10 (by decide) ?_
  refine a_iadd X d_Ws_over_11 ?_
  skip
  refine a_mmax X lk_Ws_57 sm_Jm_max in_Jm co_Jm_max d_Ws_over_12 (by decide) (Nat.le_of_ble_eq_true rfl) (Nat.le_refl _) (Nat.le_refl _) ?_
  refine ab_topi (ov_max (p := p) (by omega)) ?_
  refine a_istore X d_Ws_over_15 (by decide) ?_
  refine ab_sub [(0, .ref 16), (1, .int (nI p)), (2, .int (nI st)), (3, .long (lN (sumR (fun y => w1.2.2.2.2.1 y st * lonR id s r.2.2 w1.1 w1.2.2.1 (p - y) y st) (p - 2) 0))), (5, .int (nI ((p - 2) + 0)))] rfl ?_
  suffices LP : ∀ (mm i : Nat), (p - 2) + i ≤ p + 1 → p + 1 - ((p - 2) + i) < mm → ab_R E G m 6 0 0 17 [(0, .ref 16), (1, .int (nI p)), (2, .int (nI st)), (3, .long (lN (sumR (fun y => w1.2.2.2.2.1 y st * lonR id s r.2.2 w1.1 w1.2.2.1 (p - y) y st) (p - 2) i))), (5, .int (nI ((p - 2) + i)))] [] (hc r s w1 c b d k t ++ Z) from LP (p + 2) 0 (by omega) (by omega)
  intro mm
  induction mm with
  | zero => intro i h1 h2; exfalso; omega
  | succ mm ih =>
    intro i h1 h2
    refine a_iload X d_Ws_over_17 rfl ?_
    refine a_iload_n X 1 d_Ws_over_19 rfl rfl ?_
    refine a_icmp_gtN X 53 (by omega) (by omega) d_Ws_over_20 (by decide) (fun c20 => ?_) (fun c20 => ?_)
    ·
      refine a_lload_n X 3 d_Ws_over_53 rfl rfl ?_
      exact a_lret X d_Ws_over_54 (Nat.le_refl _) (Nat.le_refl _) ⟨w1, hok, hkn, hsm, by rw [show i = p + 1 - (p - 2) by omega], rfl⟩
    ·
      refine a_lload_n X 3 d_Ws_over_23 rfl rfl ?_
      refine a_aload_n X 0 d_Ws_over_24 rfl rfl ?_
      refine a_get X ff_Ws_25 d_Ws_over_25 hq_15 rfl ?_
      refine a_iload X d_Ws_over_28 rfl ?_
      refine a_aald X d_Ws_over_30 hq_46 rfl rfl (ab_ix_nI (by omega) (by decide)) (hg_en (by omega)) ?_
      refine a_iload_n X 2 d_Ws_over_31 rfl rfl ?_
      refine a_lald X d_Ws_over_32 (hr_en (by omega)) rfl (ab_ix_nI (by omega) (by decide)) ?_
      refine a_aload_n X 0 d_Ws_over_33 rfl rfl ?_
      refine a_iload_n X 1 d_Ws_over_34 rfl rfl ?_
      refine a_iload X d_Ws_over_35 rfl ?_
      refine a_isub X d_Ws_over_37 ?_
      refine ab_topi (pk_sub (by omega)) ?_
      refine a_iload X d_Ws_over_38 rfl ?_
      refine a_iload_n X 2 d_Ws_over_40 rfl rfl ?_
      refine a_callV X (a := 15) (As := [.int (nI _), .int (nI _), .int (nI _)]) hq_15 rfl fb_Ws_longerThan lk_Ws_63 im_Ws_longerThan se_Ws_longerThan (c_lon_w hs.2.1 hr.1 (by omega) (by omega) (by omega)) rfl rfl (Nat.le_of_ble_eq_true rfl) (by decide) (by decide) (Nat.le_refl _) (Nat.le_refl _) d_Ws_over_41 (fun v h1 hp => ?_)
      obtain ⟨rfl, rfl⟩ := hp
      refine a_lmul X d_Ws_over_44 ?_
      refine ab_topl (lN_mul _ _) ?_
      refine a_ladd X d_Ws_over_45 ?_
      refine ab_topl (lN_add _ _) ?_
      refine a_lstore_n X 3 d_Ws_over_46 rfl (by decide) ?_
      refine a_incN X d_Ws_over_47 rfl (by decide) ?_
      refine a_goto X 17 d_Ws_over_50 (by decide) ?_
      refine ab_sub [(0, .ref 16), (1, .int (nI p)), (2, .int (nI st)), (3, .long (lN (sumR (fun y => w1.2.2.2.2.1 y st * lonR id s r.2.2 w1.1 w1.2.2.1 (p - y) y st) (p - 2) (i + 1)))), (5, .int (nI ((p - 2) + (i + 1))))] rfl ?_
      exact ih (i + 1) (by omega) (by omega)
set_option maxHeartbeats 4000000 in
set_option maxRecDepth 20000 in
theorem c_sfa_c {E : ab_E} {l : Launch} {r : hR} {s : hS} {w c : hW} {b : hB} {d : hD} {k : hK} {t : hT} {Z : List ab_C} (hr : okR r) (hs : okS s) : ab_Con E l y_Ws_sumFromAhead b_Ws_sumFromAhead 3 none 3 72 [.ref 54] (hc r s w c b d k t ++ Z) 0 0 (fun v h1 => v = none ∧ ∃ up en : hG, (∀ a b, a < r.2.2 → b < s.2.2 → en a b = if a = 0 then cuC (s.1 b 0) else intR cuC s up a b) ∧ (∀ a b, a < r.2.2 → b < s.2.2 → up (a + 1) b = endR cuC s c.1 en (a + 1) b) ∧ h1 = hc r s w (c.1, c.2.1, c.2.2.1, up, en, c.2.2.2.2.2) b d k t ++ Z) := by
  obtain ⟨hn, hsg⟩ := hr
  obtain ⟨hq, hw, hm⟩ := hs
  refine ab_con (own := "HiddenRows$WaySums") (ini := false) (by decide) (fun h => by cases h) rfl (Nat.le_of_ble_eq_true rfl) ?_
  intro G m X
  show ab_R E G m 3 0 0 0 [(0, .ref 54)] [] (hc r s w c b d k t ++ Z)
  refine a_iconst X (v := nI 0) d_Ws_sumFromAhead_0 (by decide) ?_
  refine a_istore_n X 1 d_Ws_sumFromAhead_1 rfl (by decide) ?_
  refine ab_sub [(0, .ref 54), (1, .int (nI 0))] rfl ?_
  suffices LP : ∀ (mm p : Nat) (up en : hG), (∀ a b, a < p → b < s.2.2 → en a b = if a = 0 then cuC (s.1 b 0) else intR cuC s up a b) → (∀ a b, a < p → b < s.2.2 → up (a + 1) b = endR cuC s c.1 en (a + 1) b) → p ≤ r.2.2 → r.2.2 - p < mm → ab_R E G m 3 0 0 2 [(0, .ref 54), (1, .int (nI p))] [] (hc r s w (c.1, c.2.1, c.2.2.1, up, en, c.2.2.2.2.2) b d k t ++ Z) from LP (r.2.2 + 1) 0 c.2.2.2.1 c.2.2.2.2.1 (fun a b h => by omega) (fun a b h => by omega) (by omega) (by omega)
  intro mm
  induction mm with
  | zero => intro p up en hE hU h1 h2; exfalso; omega
  | succ mm ih =>
    intro p up en hE hU h1 h2
    refine a_iload_n X 1 d_Ws_sumFromAhead_2 rfl rfl ?_
    refine a_aload_n X 0 d_Ws_sumFromAhead_3 rfl rfl ?_
    refine a_get X ff_Ws_32 d_Ws_sumFromAhead_4 hq_53 rfl ?_
    refine a_get X ff_Ws_47 d_Ws_sumFromAhead_7 hq_1 rfl ?_
    refine a_icmp_geN X 111 (by omega) (by omega) d_Ws_sumFromAhead_10 (by decide) (fun c10 => ?_) (fun c10 => ?_)
    ·
      exact a_vret X d_Ws_sumFromAhead_111 (Nat.le_refl _) (Nat.le_refl _) ⟨rfl, up, en, fun a b h hb => hE a b (by omega) hb, fun a b h hb => hU a b (by omega) hb, rfl⟩
    ·
      refine a_iconst X (v := nI 0) d_Ws_sumFromAhead_13 (by decide) ?_
      refine a_istore_n X 2 d_Ws_sumFromAhead_14 rfl (by decide) ?_
      refine ab_sub [(0, .ref 54), (1, .int (nI p)), (2, .int (nI 0))] rfl ?_
      suffices LP2 : ∀ (m2 y : Nat) (en : hG), (∀ a b, a < p → b < s.2.2 → en a b = if a = 0 then cuC (s.1 b 0) else intR cuC s up a b) → (∀ a b, a < p → b < s.2.2 → up (a + 1) b = endR cuC s c.1 en (a + 1) b) → (∀ b, b < y → en p b = if p = 0 then cuC (s.1 b 0) else intR cuC s up p b) → y ≤ s.2.2 → s.2.2 - y < m2 → ab_R E G m 3 0 0 15 [(0, .ref 54), (1, .int (nI p)), (2, .int (nI y))] [] (hc r s w (c.1, c.2.1, c.2.2.1, up, en, c.2.2.2.2.2) b d k t ++ Z) from LP2 (s.2.2 + 1) 0 en hE hU (fun b h => by omega) (by omega) (by omega)
      clear hE hU en
      intro m2
      induction m2 with
      | zero => intro y en hE hU hP h3 h4; exfalso; omega
      | succ m2 ih2 =>
        intro y en hE hU hP h3 h4
        refine a_iload_n X 2 d_Ws_sumFromAhead_15 rfl rfl ?_
        refine a_aload_n X 0 d_Ws_sumFromAhead_16 rfl rfl ?_
        refine a_get X ff_Ws_36 d_Ws_sumFromAhead_17 hq_53 rfl ?_
        refine a_get X ff_Ws_52 d_Ws_sumFromAhead_20 hq_4 rfl ?_
        refine a_icmp_geN X 68 (by omega) (by omega) d_Ws_sumFromAhead_23 (by decide) (fun c23 => ?_) (fun c23 => ?_)
        ·
          refine a_iconst X (v := nI 0) d_Ws_sumFromAhead_68 (by decide) ?_
          refine a_istore_n X 2 d_Ws_sumFromAhead_69 rfl (by decide) ?_
          refine ab_sub [(0, .ref 54), (1, .int (nI p)), (2, .int (nI 0))] rfl ?_
          suffices LP3 : ∀ (m3 y : Nat) (up : hG), (∀ a b, a < p + 1 → b < s.2.2 → en a b = if a = 0 then cuC (s.1 b 0) else intR cuC s up a b) → (∀ a b, a < p → b < s.2.2 → up (a + 1) b = endR cuC s c.1 en (a + 1) b) → (∀ b, b < y → up (p + 1) b = endR cuC s c.1 en (p + 1) b) → y ≤ s.2.2 → s.2.2 - y < m3 → ab_R E G m 3 0 0 70 [(0, .ref 54), (1, .int (nI p)), (2, .int (nI y))] [] (hc r s w (c.1, c.2.1, c.2.2.1, up, en, c.2.2.2.2.2) b d k t ++ Z) from LP3 (s.2.2 + 1) 0 up (fun a b h1 h2 => by
            by_cases e : a = p
            · subst e
              exact hP b (by omega)
            · exact hE a b (by omega) h2) hU (fun b h => by omega) (by omega) (by omega)
          clear hE hU hP ih2 up
          intro m3
          induction m3 with
          | zero => intro y up hE hU hP h3 h4; exfalso; omega
          | succ m3 ih3 =>
            intro y up hE hU hP h3 h4
            refine a_iload_n X 2 d_Ws_sumFromAhead_70 rfl rfl ?_
            refine a_aload_n X 0 d_Ws_sumFromAhead_71 rfl rfl ?_
            refine a_get X ff_Ws_36 d_Ws_sumFromAhead_72 hq_53 rfl ?_
            refine a_get X ff_Ws_52 d_Ws_sumFromAhead_75 hq_4 rfl ?_
            refine a_icmp_geN X 105 (by omega) (by omega) d_Ws_sumFromAhead_78 (by decide) (fun c78 => ?_) (fun c78 => ?_)
            ·
              refine a_incN X d_Ws_sumFromAhead_105 rfl (by decide) ?_
              refine a_goto X 2 d_Ws_sumFromAhead_108 (by decide) ?_
              refine ab_sub [(0, .ref 54), (1, .int (nI (p + 1)))] rfl ?_
              exact ih (p + 1) up en hE (fun a b h1 h2 => by
                by_cases e : a = p
                · subst e
                  exact hP b (by omega)
                · exact hU a b (by omega) h2) (by omega) (by omega)
            ·
              refine a_aload_n X 0 d_Ws_sumFromAhead_81 rfl rfl ?_
              refine a_get X ff_Ws_22 d_Ws_sumFromAhead_82 hq_53 rfl ?_
              refine a_iload_n X 1 d_Ws_sumFromAhead_85 rfl rfl ?_
              refine a_iconst X (v := nI 1) d_Ws_sumFromAhead_86 (by decide) ?_
              refine a_iadd X d_Ws_sumFromAhead_87 ?_
              refine ab_topi (nI_add _ _) ?_
              refine a_aald X d_Ws_sumFromAhead_88 hq_76 rfl rfl (ab_ix_nI (by omega) (by decide)) (hg_cup (by omega)) ?_
              refine a_iload_n X 2 d_Ws_sumFromAhead_89 rfl rfl ?_
              refine a_aload_n X 0 d_Ws_sumFromAhead_90 rfl rfl ?_
              refine a_iload_n X 1 d_Ws_sumFromAhead_91 rfl rfl ?_
              refine a_iconst X (v := nI 1) d_Ws_sumFromAhead_92 (by decide) ?_
              refine a_iadd X d_Ws_sumFromAhead_93 ?_
              refine ab_topi (nI_add _ _) ?_
              refine a_iload_n X 2 d_Ws_sumFromAhead_94 rfl rfl ?_
              refine a_callV X (a := 53) (As := [.int (nI _), .int (nI _)]) hq_53 rfl fb_Ws_endedBefore lk_Ws_107 im_Ws_endedBefore se_Ws_endedBefore (c_end_c hw (by omega) (by omega)) rfl rfl (Nat.le_of_ble_eq_true rfl) (by decide) (by decide) (Nat.le_refl _) (Nat.le_refl _) d_Ws_sumFromAhead_95 (fun v h1 hp => ?_)
              obtain ⟨rfl, rfl⟩ := hp
              refine a_last X d_Ws_sumFromAhead_98 (hr_cup (by omega)) rfl (ab_ix_nI (by omega) (by decide)) ?_
              refine ab_hp (hw_cup (by omega)) ?_
              refine a_incN X d_Ws_sumFromAhead_99 rfl (by decide) ?_
              refine a_goto X 70 d_Ws_sumFromAhead_102 (by decide) ?_
              refine ab_sub [(0, .ref 54), (1, .int (nI p)), (2, .int (nI (y + 1)))] rfl ?_
              exact ih3 (y + 1) (up2 up (p + 1) y (endR cuC s c.1 en (p + 1) y)) (fun a b h1 h2 => by rw [intR_congr (f' := up) (up2_row (by omega))]; exact hE a b h1 h2) (fun a b h1 h2 => by rw [up2_row (by omega)]; exact hU a b h1 h2) (fun b h => by
                rw [up2_at]
                split
                · next e => rw [e.2]
                · exact hP b (by omega)) (by omega) (by omega)
        ·
          refine a_aload_n X 0 d_Ws_sumFromAhead_26 rfl rfl ?_
          refine a_get X ff_Ws_25 d_Ws_sumFromAhead_27 hq_53 rfl ?_
          refine a_iload_n X 1 d_Ws_sumFromAhead_30 rfl rfl ?_
          refine a_aald X d_Ws_sumFromAhead_31 hq_84 rfl rfl (ab_ix_nI (by omega) (by decide)) (hg_cen (by omega)) ?_
          refine a_iload_n X 2 d_Ws_sumFromAhead_32 rfl rfl ?_
          refine a_iload_n X 1 d_Ws_sumFromAhead_33 rfl rfl ?_
          refine a_if_neN X 55 (by omega) d_Ws_sumFromAhead_34 (by decide) (fun c34 => ?_) (fun c34 => ?_)
          ·
            have hv : intR cuC s up p y = if p = 0 then cuC (s.1 y 0) else intR cuC s up p y := by rw [if_neg (by omega)]
            refine a_aload_n X 0 d_Ws_sumFromAhead_55 rfl rfl ?_
            refine a_iload_n X 1 d_Ws_sumFromAhead_56 rfl rfl ?_
            refine a_iload_n X 2 d_Ws_sumFromAhead_57 rfl rfl ?_
            refine a_callV X (a := 53) (As := [.int (nI _), .int (nI _)]) hq_53 rfl fb_Ws_movedInto lk_Ws_104 im_Ws_movedInto se_Ws_movedInto (c_int_c hm hq (by omega) (by omega)) rfl rfl (Nat.le_of_ble_eq_true rfl) (by decide) (by decide) (Nat.le_refl _) (Nat.le_refl _) d_Ws_sumFromAhead_58 (fun v h1 hp => ?_)
            obtain ⟨rfl, rfl⟩ := hp
            refine ab_topl (congrArg lN hv) ?_
            refine a_last X d_Ws_sumFromAhead_61 (hr_cen (by omega)) rfl (ab_ix_nI (by omega) (by decide)) ?_
            refine ab_hp (hw_cen (by omega)) ?_
            refine a_incN X d_Ws_sumFromAhead_62 rfl (by decide) ?_
            refine a_goto X 15 d_Ws_sumFromAhead_65 (by decide) ?_
            refine ab_sub [(0, .ref 54), (1, .int (nI p)), (2, .int (nI (y + 1)))] rfl ?_
            exact ih2 (y + 1) (up2 en p y (if p = 0 then cuC (s.1 y 0) else intR cuC s up p y)) (fun a b h1 h2 => by rw [up2_row (by omega)]; exact hE a b h1 h2) (fun a b h1 h2 => by rw [endR_congr (g' := en) (fun z hz => by rw [up2_row (by omega)])]; exact hU a b h1 h2) (fun b h => by
              by_cases e : b = y
              · subst e
                rw [up2_self]
              · rw [up2_ne (fun q => e q.2)]
                exact hP b (by omega)) (by omega) (by omega)
          ·
            have hv : cuC (s.1 y 0) = if p = 0 then cuC (s.1 y 0) else intR cuC s up p y := by rw [if_pos (by omega)]
            refine a_aload_n X 0 d_Ws_sumFromAhead_37 rfl rfl ?_
            refine a_aload_n X 0 d_Ws_sumFromAhead_38 rfl rfl ?_
            refine a_get X ff_Ws_36 d_Ws_sumFromAhead_39 hq_53 rfl ?_
            refine a_get X ff_Ws_78 d_Ws_sumFromAhead_42 hq_4 rfl ?_
            refine a_iload_n X 2 d_Ws_sumFromAhead_45 rfl rfl ?_
            refine a_aald X d_Ws_sumFromAhead_46 hq_5 rfl rfl (ab_ix_nI (by omega) (by decide)) (hg_wt (by omega)) ?_
            refine a_iconst X (v := nI 0) d_Ws_sumFromAhead_47 (by decide) ?_
            refine a_iald X d_Ws_sumFromAhead_48 (hr_wt (by omega)) rfl (ab_ix_nI (by omega) (by decide)) ?_
            refine a_callV X (a := 53) (As := [.int (nI _)]) hq_53 rfl fb_Ws_cut lk_Ws_71 im_Ws_cut se_Ws_cut (c_cut_c (by have := hw y 0; omega)) rfl rfl (Nat.le_of_ble_eq_true rfl) (by decide) (by decide) (Nat.le_refl _) (Nat.le_refl _) d_Ws_sumFromAhead_49 (fun v h1 hp => ?_)
            obtain ⟨rfl, rfl⟩ := hp
            refine a_goto X 61 d_Ws_sumFromAhead_52 (by decide) ?_
            refine ab_topl (congrArg lN hv) ?_
            refine a_last X d_Ws_sumFromAhead_61 (hr_cen (by omega)) rfl (ab_ix_nI (by omega) (by decide)) ?_
            refine ab_hp (hw_cen (by omega)) ?_
            refine a_incN X d_Ws_sumFromAhead_62 rfl (by decide) ?_
            refine a_goto X 15 d_Ws_sumFromAhead_65 (by decide) ?_
            refine ab_sub [(0, .ref 54), (1, .int (nI p)), (2, .int (nI (y + 1)))] rfl ?_
            exact ih2 (y + 1) (up2 en p y (if p = 0 then cuC (s.1 y 0) else intR cuC s up p y)) (fun a b h1 h2 => by rw [up2_row (by omega)]; exact hE a b h1 h2) (fun a b h1 h2 => by rw [endR_congr (g' := en) (fun z hz => by rw [up2_row (by omega)])]; exact hU a b h1 h2) (fun b h => by
              by_cases e : b = y
              · subst e
                rw [up2_self]
              · rw [up2_ne (fun q => e q.2)]
                exact hP b (by omega)) (by omega) (by omega)
set_option maxHeartbeats 4000000 in
set_option maxRecDepth 20000 in
theorem c_ref_c {E : ab_E} {l : Launch} {r : hR} {s : hS} {w c : hW} {b : hB} {d : hD} {k : hK} {t : hT} {Z : List ab_C} (hr : okR r) (hs : okS s) (hk : c.2.2.2.2.2 = 0 ∨ c.2.2.2.2.2 = 1 ∧ okW cuC r s c) : ab_Con E l y_Ws_refresh b_Ws_refresh 1 none 4 95 [.ref 54] (hc r s w c b d k t ++ Z) 0 0 (fun v h1 => v = none ∧ ∃ w1 : hW, okW cuC r s w1 ∧ w1.2.2.2.2.2 = 1 ∧ (c.2.2.2.2.2 = 1 → w1 = c) ∧ h1 = hc r s w w1 b d k t ++ Z) := by
  have hk1 : c.2.2.2.2.2 < 2 ^ 31 := by rcases hk with h | h <;> omega
  refine ab_con (own := "HiddenRows$WaySums") (ini := false) (by decide) (fun h => by cases h) rfl (Nat.le_of_ble_eq_true rfl) ?_
  intro G m X
  show ab_R E G m 1 0 0 0 [(0, .ref 54)] [] (hc r s w c b d k t ++ Z)
  refine a_aload_n X 0 d_Ws_refresh_0 rfl rfl ?_
  refine a_get X ff_Ws_28 d_Ws_refresh_1 hq_53 rfl ?_
  refine a_if_eqN X 8 (by omega) d_Ws_refresh_4 (by decide) (fun c4 => ?_) (fun c4 => ?_)
  ·
    refine a_aload_n X 0 d_Ws_refresh_8 rfl rfl ?_
    refine a_iconst X (v := nI 1) d_Ws_refresh_9 (by decide) ?_
    refine a_put X ff_Ws_28 d_Ws_refresh_10 hq_53 (Nat.le_of_ble_eq_true rfl) rfl rfl ?_
    refine ab_hp hs_ck ?_
    refine a_aload_n X 0 d_Ws_refresh_13 rfl rfl ?_
    refine a_callV X (a := 53) (As := []) hq_53 rfl fb_Ws_showPlaces lk_Ws_81 im_Ws_showPlaces se_Ws_showPlaces (c_shp_c hr hs) rfl rfl (Nat.le_of_ble_eq_true rfl) (by decide) (by decide) (Nat.le_refl _) (Nat.le_refl _) d_Ws_refresh_14 (fun v h1 hp => ?_)
    obtain ⟨rfl, sh, hsh, rfl⟩ := hp
    refine a_aload_n X 0 d_Ws_refresh_17 rfl rfl ?_
    refine a_callV X (a := 53) (As := []) hq_53 rfl fb_Ws_sumFromBehind lk_Ws_84 im_Ws_sumFromBehind se_Ws_sumFromBehind (c_sfb_c hr hs) rfl rfl (Nat.le_of_ble_eq_true rfl) (by decide) (by decide) (Nat.le_refl _) (Nat.le_refl _) d_Ws_refresh_18 (fun v h1 hp => ?_)
    obtain ⟨rfl, fr, le, h1, h2, h3, rfl⟩ := hp
    refine a_aload_n X 0 d_Ws_refresh_21 rfl rfl ?_
    refine a_callV X (a := 53) (As := []) hq_53 rfl fb_Ws_sumFromAhead lk_Ws_87 im_Ws_sumFromAhead se_Ws_sumFromAhead (c_sfa_c hr hs) rfl rfl (Nat.le_of_ble_eq_true rfl) (by decide) (by decide) (Nat.le_refl _) (Nat.le_refl _) d_Ws_refresh_22 (fun v h1 hp => ?_)
    obtain ⟨rfl, up, en, h4, h5, rfl⟩ := hp
    exact a_vret X d_Ws_refresh_25 (Nat.le_refl _) (Nat.le_refl _) ⟨rfl, (sh, fr, le, up, en, 1), ⟨hsh, h1, h2, h3, h4, h5⟩, rfl, fun q => by omega, rfl⟩
  ·
    exact a_vret X d_Ws_refresh_7 (Nat.le_refl _) (Nat.le_refl _) ⟨rfl, c, (hk.resolve_left (by omega)).2, (hk.resolve_left (by omega)).1, fun _ => rfl, rfl⟩
set_option maxHeartbeats 4000000 in
set_option maxRecDepth 20000 in
theorem c_beg_c {E : ab_E} {l : Launch} {r : hR} {s : hS} {w c : hW} {b : hB} {d : hD} {k : hK} {t : hT} {Z : List ab_C} (hr : okR r) (hs : okS s) (hk : c.2.2.2.2.2 = 0 ∨ c.2.2.2.2.2 = 1 ∧ okW cuC r s c) {p st : Nat} (hp : p < 6) (hst : st < 4) : ab_Con E l y_Ws_beginning b_Ws_beginning 3 (some .long) 5 115 [.ref 54, .int (nI p), .int (nI st)] (hc r s w c b d k t ++ Z) 0 0 (fun v h1 => ∃ w1 : hW, okW cuC r s w1 ∧ w1.2.2.2.2.2 = 1 ∧ (c.2.2.2.2.2 = 1 → w1 = c) ∧ v = some (.long (lN (w1.2.2.2.2.1 p st * w1.2.1 p st))) ∧ h1 = hc r s w w1 b d k t ++ Z) := by
  refine ab_con (own := "HiddenRows$WaySums") (ini := false) (by decide) (fun h => by cases h) rfl (Nat.le_of_ble_eq_true rfl) ?_
  intro G m X
  show ab_R E G m 3 0 0 0 [(0, .ref 54), (1, .int (nI p)), (2, .int (nI st))] [] (hc r s w c b d k t ++ Z)
  refine a_aload_n X 0 d_Ws_beginning_0 rfl rfl ?_
  refine a_callV X (a := 53) (As := []) hq_53 rfl fb_Ws_refresh lk_Ws_44 im_Ws_refresh se_Ws_refresh (c_ref_c hr hs hk) rfl rfl (Nat.le_of_ble_eq_true rfl) (by decide) (by decide) (Nat.le_refl _) (Nat.le_refl _) d_Ws_beginning_1 (fun v h1 hp => ?_)
  obtain ⟨rfl, w1, hok, hkn, hsm, rfl⟩ := hp
  refine a_aload_n X 0 d_Ws_beginning_4 rfl rfl ?_
  refine a_get X ff_Ws_25 d_Ws_beginning_5 hq_53 rfl ?_
  refine a_iload_n X 1 d_Ws_beginning_8 rfl rfl ?_
  refine a_aald X d_Ws_beginning_9 hq_84 rfl rfl (ab_ix_nI (by omega) (by decide)) (hg_cen (by omega)) ?_
  refine a_iload_n X 2 d_Ws_beginning_10 rfl rfl ?_
  refine a_lald X d_Ws_beginning_11 (hr_cen (by omega)) rfl (ab_ix_nI (by omega) (by decide)) ?_
  refine a_aload_n X 0 d_Ws_beginning_12 rfl rfl ?_
  refine a_get X ff_Ws_16 d_Ws_beginning_13 hq_53 rfl ?_
  refine a_iload_n X 1 d_Ws_beginning_16 rfl rfl ?_
  refine a_aald X d_Ws_beginning_17 hq_61 rfl rfl (ab_ix_nI (by omega) (by decide)) (hg_cfr (by omega)) ?_
  refine a_iload_n X 2 d_Ws_beginning_18 rfl rfl ?_
  refine a_lald X d_Ws_beginning_19 (hr_cfr (by omega)) rfl (ab_ix_nI (by omega) (by decide)) ?_
  refine a_lmul X d_Ws_beginning_20 ?_
  refine ab_topl (lN_mul _ _) ?_
  exact a_lret X d_Ws_beginning_21 (Nat.le_refl _) (Nat.le_refl _) ⟨w1, hok, hkn, hsm, rfl, rfl⟩
set_option maxHeartbeats 4000000 in
set_option maxRecDepth 20000 in
theorem c_mov_c {E : ab_E} {l : Launch} {r : hR} {s : hS} {w c : hW} {b : hB} {d : hD} {k : hK} {t : hT} {Z : List ab_C} (hr : okR r) (hs : okS s) (hk : c.2.2.2.2.2 = 0 ∨ c.2.2.2.2.2 = 1 ∧ okW cuC r s c) {p sa sb : Nat} (hp : p < 6) (hsa : sa < 4) (hsb : sb < 4) : ab_Con E l y_Ws_moving b_Ws_moving 4 (some .long) 5 115 [.ref 54, .int (nI p), .int (nI sa), .int (nI sb)] (hc r s w c b d k t ++ Z) 0 0 (fun v h1 => ∃ w1 : hW, okW cuC r s w1 ∧ w1.2.2.2.2.2 = 1 ∧ (c.2.2.2.2.2 = 1 → w1 = c) ∧ v = some (.long (lN (w1.2.2.2.1 p sa * cuC (s.2.1 sa sb) * w1.2.1 p sb))) ∧ h1 = hc r s w w1 b d k t ++ Z) := by
  refine ab_con (own := "HiddenRows$WaySums") (ini := false) (by decide) (fun h => by cases h) rfl (Nat.le_of_ble_eq_true rfl) ?_
  intro G m X
  show ab_R E G m 4 0 0 0 [(0, .ref 54), (1, .int (nI p)), (2, .int (nI sa)), (3, .int (nI sb))] [] (hc r s w c b d k t ++ Z)
  refine a_aload_n X 0 d_Ws_moving_0 rfl rfl ?_
  refine a_callV X (a := 53) (As := []) hq_53 rfl fb_Ws_refresh lk_Ws_44 im_Ws_refresh se_Ws_refresh (c_ref_c hr hs hk) rfl rfl (Nat.le_of_ble_eq_true rfl) (by decide) (by decide) (Nat.le_refl _) (Nat.le_refl _) d_Ws_moving_1 (fun v h1 hp => ?_)
  obtain ⟨rfl, w1, hok, hkn, hsm, rfl⟩ := hp
  refine a_aload_n X 0 d_Ws_moving_4 rfl rfl ?_
  refine a_get X ff_Ws_22 d_Ws_moving_5 hq_53 rfl ?_
  refine a_iload_n X 1 d_Ws_moving_8 rfl rfl ?_
  refine a_aald X d_Ws_moving_9 hq_76 rfl rfl (ab_ix_nI (by omega) (by decide)) (hg_cup (by omega)) ?_
  refine a_iload_n X 2 d_Ws_moving_10 rfl rfl ?_
  refine a_lald X d_Ws_moving_11 (hr_cup (by omega)) rfl (ab_ix_nI (by omega) (by decide)) ?_
  refine a_aload_n X 0 d_Ws_moving_12 rfl rfl ?_
  refine a_aload_n X 0 d_Ws_moving_13 rfl rfl ?_
  refine a_get X ff_Ws_36 d_Ws_moving_14 hq_53 rfl ?_
  refine a_get X ff_Ws_67 d_Ws_moving_17 hq_4 rfl ?_
  refine a_iload_n X 2 d_Ws_moving_20 rfl rfl ?_
  refine a_aald X d_Ws_moving_21 hq_10 rfl rfl (ab_ix_nI (by omega) (by decide)) (hg_mv (by omega)) ?_
  refine a_iload_n X 3 d_Ws_moving_22 rfl rfl ?_
  refine a_iald X d_Ws_moving_23 (hr_mv (by omega)) rfl (ab_ix_nI (by omega) (by decide)) ?_
  refine a_callV X (a := 53) (As := [.int (nI _)]) hq_53 rfl fb_Ws_cut lk_Ws_71 im_Ws_cut se_Ws_cut (c_cut_c (by have := hs.2.2 sa sb; omega)) rfl rfl (Nat.le_of_ble_eq_true rfl) (by decide) (by decide) (Nat.le_refl _) (Nat.le_refl _) d_Ws_moving_24 (fun v h1 hp => ?_)
  obtain ⟨rfl, rfl⟩ := hp
  refine a_lmul X d_Ws_moving_27 ?_
  refine ab_topl (lN_mul _ _) ?_
  refine a_aload_n X 0 d_Ws_moving_28 rfl rfl ?_
  refine a_get X ff_Ws_16 d_Ws_moving_29 hq_53 rfl ?_
  refine a_iload_n X 1 d_Ws_moving_32 rfl rfl ?_
  refine a_aald X d_Ws_moving_33 hq_61 rfl rfl (ab_ix_nI (by omega) (by decide)) (hg_cfr (by omega)) ?_
  refine a_iload_n X 3 d_Ws_moving_34 rfl rfl ?_
  refine a_lald X d_Ws_moving_35 (hr_cfr (by omega)) rfl (ab_ix_nI (by omega) (by decide)) ?_
  refine a_lmul X d_Ws_moving_36 ?_
  refine ab_topl (lN_mul _ _) ?_
  exact a_lret X d_Ws_moving_37 (Nat.le_refl _) (Nat.le_refl _) ⟨w1, hok, hkn, hsm, rfl, rfl⟩
set_option maxHeartbeats 4000000 in
set_option maxRecDepth 20000 in
theorem c_who_c {E : ab_E} {l : Launch} {r : hR} {s : hS} {w c : hW} {b : hB} {d : hD} {k : hK} {t : hT} {Z : List ab_C} (hr : okR r) (hs : okS s) (hk : c.2.2.2.2.2 = 0 ∨ c.2.2.2.2.2 = 1 ∧ okW cuC r s c) : ab_Con E l y_Ws_whole b_Ws_whole 4 (some .long) 5 115 [.ref 54] (hc r s w c b d k t ++ Z) 0 0 (fun v h1 => ∃ w1 : hW, okW cuC r s w1 ∧ w1.2.2.2.2.2 = 1 ∧ (c.2.2.2.2.2 = 1 → w1 = c) ∧ v = some (.long (lN (if r.2.2 = 0 then 0 else sumR (fun y => w1.2.2.2.2.1 0 y * w1.2.1 0 y) 0 s.2.2))) ∧ h1 = hc r s w w1 b d k t ++ Z) := by
  refine ab_con (own := "HiddenRows$WaySums") (ini := false) (by decide) (fun h => by cases h) rfl (Nat.le_of_ble_eq_true rfl) ?_
  intro G m X
  show ab_R E G m 4 0 0 0 [(0, .ref 54)] [] (hc r s w c b d k t ++ Z)
  refine a_aload_n X 0 d_Ws_whole_0 rfl rfl ?_
  refine a_callV X (a := 53) (As := []) hq_53 rfl fb_Ws_refresh lk_Ws_44 im_Ws_refresh se_Ws_refresh (c_ref_c hr hs hk) rfl rfl (Nat.le_of_ble_eq_true rfl) (by decide) (by decide) (Nat.le_refl _) (Nat.le_refl _) d_Ws_whole_1 (fun v h1 hp => ?_)
  obtain ⟨rfl, w1, hok, hkn, hsm, rfl⟩ := hp
  refine a_lconst X (v := lN 0) d_Ws_whole_4 (by decide) ?_
  refine a_lstore_n X 1 d_Ws_whole_5 rfl (by decide) ?_
  refine a_aload_n X 0 d_Ws_whole_6 rfl rfl ?_
  refine a_get X ff_Ws_32 d_Ws_whole_7 hq_53 rfl ?_
  refine a_get X ff_Ws_47 d_Ws_whole_10 hq_1 rfl ?_
  have hn := hr.1
  have hq := hs.1
  refine a_if_leN X 55 (by omega) d_Ws_whole_13 (by decide) (fun c13 => ?_) (fun c13 => ?_)
  ·
    refine a_lload_n X 1 d_Ws_whole_55 rfl rfl ?_
    exact a_lret X d_Ws_whole_56 (Nat.le_refl _) (Nat.le_refl _) ⟨w1, hok, hkn, hsm, by rw [if_pos (by omega)], rfl⟩
  ·
    refine a_iconst X (v := nI 0) d_Ws_whole_16 (by decide) ?_
    refine a_istore_n X 3 d_Ws_whole_17 rfl (by decide) ?_
    refine ab_sub [(0, .ref 54), (1, .long (lN (sumR (fun y => w1.2.2.2.2.1 0 y * w1.2.1 0 y) 0 0))), (3, .int (nI 0))] rfl ?_
    suffices LP : ∀ (mm i : Nat), i ≤ s.2.2 → s.2.2 - i < mm → ab_R E G m 4 0 0 18 [(0, .ref 54), (1, .long (lN (sumR (fun y => w1.2.2.2.2.1 0 y * w1.2.1 0 y) 0 i))), (3, .int (nI i))] [] (hc r s w w1 b d k t ++ Z) from LP (s.2.2 + 1) 0 (by omega) (by omega)
    intro mm
    induction mm with
    | zero => intro i h1 h2; exfalso; omega
    | succ mm ih =>
      intro i h1 h2
      refine a_iload_n X 3 d_Ws_whole_18 rfl rfl ?_
      refine a_aload_n X 0 d_Ws_whole_19 rfl rfl ?_
      refine a_get X ff_Ws_36 d_Ws_whole_20 hq_53 rfl ?_
      refine a_get X ff_Ws_52 d_Ws_whole_23 hq_4 rfl ?_
      refine a_icmp_geN X 55 (by omega) (by omega) d_Ws_whole_26 (by decide) (fun c26 => ?_) (fun c26 => ?_)
      ·
        refine a_lload_n X 1 d_Ws_whole_55 rfl rfl ?_
        exact a_lret X d_Ws_whole_56 (Nat.le_refl _) (Nat.le_refl _) ⟨w1, hok, hkn, hsm, by rw [if_neg (by omega), show i = s.2.2 by omega], rfl⟩
      ·
        refine a_lload_n X 1 d_Ws_whole_29 rfl rfl ?_
        refine a_aload_n X 0 d_Ws_whole_30 rfl rfl ?_
        refine a_get X ff_Ws_25 d_Ws_whole_31 hq_53 rfl ?_
        refine a_iconst X (v := nI 0) d_Ws_whole_34 (by decide) ?_
        refine a_aald X d_Ws_whole_35 hq_84 rfl rfl (ab_ix_nI (by omega) (by decide)) (hg_cen (by omega)) ?_
        refine a_iload_n X 3 d_Ws_whole_36 rfl rfl ?_
        refine a_lald X d_Ws_whole_37 (hr_cen (i := 0) (by omega)) rfl (ab_ix_nI (by omega) (by decide)) ?_
        refine a_aload_n X 0 d_Ws_whole_38 rfl rfl ?_
        refine a_get X ff_Ws_16 d_Ws_whole_39 hq_53 rfl ?_
        refine a_iconst X (v := nI 0) d_Ws_whole_42 (by decide) ?_
        refine a_aald X d_Ws_whole_43 hq_61 rfl rfl (ab_ix_nI (by omega) (by decide)) (hg_cfr (by omega)) ?_
        refine a_iload_n X 3 d_Ws_whole_44 rfl rfl ?_
        refine a_lald X d_Ws_whole_45 (hr_cfr (i := 0) (by omega)) rfl (ab_ix_nI (by omega) (by decide)) ?_
        refine a_lmul X d_Ws_whole_46 ?_
        refine ab_topl (lN_mul _ _) ?_
        refine a_ladd X d_Ws_whole_47 ?_
        refine ab_topl (lN_add _ _) ?_
        refine ab_topl (congrArg lN (show _ = sumR (fun y => w1.2.2.2.2.1 0 y * w1.2.1 0 y) 0 (i + 1) from by show _ = sumR _ 0 i + _ * _; rw [Nat.zero_add])) ?_
        refine a_lstore_n X 1 d_Ws_whole_48 rfl (by decide) ?_
        refine a_incN X d_Ws_whole_49 rfl (by decide) ?_
        refine a_goto X 18 d_Ws_whole_52 (by decide) ?_
        refine ab_sub [(0, .ref 54), (1, .long (lN (sumR (fun y => w1.2.2.2.2.1 0 y * w1.2.1 0 y) 0 (i + 1)))), (3, .int (nI (i + 1)))] rfl ?_
        exact ih (i + 1) (by omega) (by omega)
set_option maxHeartbeats 4000000 in
set_option maxRecDepth 20000 in
theorem c_ove_c {E : ab_E} {l : Launch} {r : hR} {s : hS} {w c : hW} {b : hB} {d : hD} {k : hK} {t : hT} {Z : List ab_C} (hr : okR r) (hs : okS s) (hk : c.2.2.2.2.2 = 0 ∨ c.2.2.2.2.2 = 1 ∧ okW cuC r s c) {p st : Nat} (hp : p < r.2.2) (hst : st < 4) : ab_Con E l y_Ws_over b_Ws_over 6 (some .long) 5 115 [.ref 54, .int (nI p), .int (nI st)] (hc r s w c b d k t ++ Z) 0 0 (fun v h1 => ∃ w1 : hW, okW cuC r s w1 ∧ w1.2.2.2.2.2 = 1 ∧ (c.2.2.2.2.2 = 1 → w1 = c) ∧ v = some (.long (lN (sumR (fun y => w1.2.2.2.2.1 y st * lonR cuC s r.2.2 w1.1 w1.2.2.1 (p - y) y st) (p - 2) (p + 1 - (p - 2))))) ∧ h1 = hc r s w w1 b d k t ++ Z) := by
  have hn := hr.1
  refine ab_con (own := "HiddenRows$WaySums") (ini := false) (by decide) (fun h => by cases h) rfl (Nat.le_of_ble_eq_true rfl) ?_
  intro G m X
  show ab_R E G m 6 0 0 0 [(0, .ref 54), (1, .int (nI p)), (2, .int (nI st))] [] (hc r s w c b d k t ++ Z)
  refine a_aload_n X 0 d_Ws_over_0 rfl rfl ?_
  refine a_callV X (a := 53) (As := []) hq_53 rfl fb_Ws_refresh lk_Ws_44 im_Ws_refresh se_Ws_refresh (c_ref_c hr hs hk) rfl rfl (Nat.le_of_ble_eq_true rfl) (by decide) (by decide) (Nat.le_refl _) (Nat.le_refl _) d_Ws_over_1 (fun v h1 hp => ?_)
  obtain ⟨rfl, w1, hok, hkn, hsm, rfl⟩ := hp
  refine a_lconst X (v := lN 0) d_Ws_over_4 (by decide) ?_
  refine a_lstore_n X 3 d_Ws_over_5 rfl (by decide) ?_
  refine a_iconst X (v := nI 0) d_Ws_over_6 (by decide) ?_
  refine a_iload_n X 1 d_Ws_over_7 rfl rfl ?_
  refine a_iconst X (v := nI 3) d_Ws_over_8 (by decide) ?_
  refine a_isub X d_Ws_over_9 ?_
  skip
  refine a_iconst X (v := nI 1) d_Ws_over_10 (by decide) ?_
  refine a_iadd X d_Ws_over_11 ?_
  skip
  refine a_mmax X lk_Ws_57 sm_Jm_max in_Jm co_Jm_max d_Ws_over_12 (by decide) (Nat.le_of_ble_eq_true rfl) (Nat.le_refl _) (Nat.le_refl _) ?_
  refine ab_topi (ov_max (p := p) (by omega)) ?_
  refine a_istore X d_Ws_over_15 (by decide) ?_
  refine ab_sub [(0, .ref 54), (1, .int (nI p)), (2, .int (nI st)), (3, .long (lN (sumR (fun y => w1.2.2.2.2.1 y st * lonR cuC s r.2.2 w1.1 w1.2.2.1 (p - y) y st) (p - 2) 0))), (5, .int (nI ((p - 2) + 0)))] rfl ?_
  suffices LP : ∀ (mm i : Nat), (p - 2) + i ≤ p + 1 → p + 1 - ((p - 2) + i) < mm → ab_R E G m 6 0 0 17 [(0, .ref 54), (1, .int (nI p)), (2, .int (nI st)), (3, .long (lN (sumR (fun y => w1.2.2.2.2.1 y st * lonR cuC s r.2.2 w1.1 w1.2.2.1 (p - y) y st) (p - 2) i))), (5, .int (nI ((p - 2) + i)))] [] (hc r s w w1 b d k t ++ Z) from LP (p + 2) 0 (by omega) (by omega)
  intro mm
  induction mm with
  | zero => intro i h1 h2; exfalso; omega
  | succ mm ih =>
    intro i h1 h2
    refine a_iload X d_Ws_over_17 rfl ?_
    refine a_iload_n X 1 d_Ws_over_19 rfl rfl ?_
    refine a_icmp_gtN X 53 (by omega) (by omega) d_Ws_over_20 (by decide) (fun c20 => ?_) (fun c20 => ?_)
    ·
      refine a_lload_n X 3 d_Ws_over_53 rfl rfl ?_
      exact a_lret X d_Ws_over_54 (Nat.le_refl _) (Nat.le_refl _) ⟨w1, hok, hkn, hsm, by rw [show i = p + 1 - (p - 2) by omega], rfl⟩
    ·
      refine a_lload_n X 3 d_Ws_over_23 rfl rfl ?_
      refine a_aload_n X 0 d_Ws_over_24 rfl rfl ?_
      refine a_get X ff_Ws_25 d_Ws_over_25 hq_53 rfl ?_
      refine a_iload X d_Ws_over_28 rfl ?_
      refine a_aald X d_Ws_over_30 hq_84 rfl rfl (ab_ix_nI (by omega) (by decide)) (hg_cen (by omega)) ?_
      refine a_iload_n X 2 d_Ws_over_31 rfl rfl ?_
      refine a_lald X d_Ws_over_32 (hr_cen (by omega)) rfl (ab_ix_nI (by omega) (by decide)) ?_
      refine a_aload_n X 0 d_Ws_over_33 rfl rfl ?_
      refine a_iload_n X 1 d_Ws_over_34 rfl rfl ?_
      refine a_iload X d_Ws_over_35 rfl ?_
      refine a_isub X d_Ws_over_37 ?_
      refine ab_topi (pk_sub (by omega)) ?_
      refine a_iload X d_Ws_over_38 rfl ?_
      refine a_iload_n X 2 d_Ws_over_40 rfl rfl ?_
      refine a_callV X (a := 53) (As := [.int (nI _), .int (nI _), .int (nI _)]) hq_53 rfl fb_Ws_longerThan lk_Ws_63 im_Ws_longerThan se_Ws_longerThan (c_lon_c hs.2.1 hr.1 (by omega) (by omega) (by omega)) rfl rfl (Nat.le_of_ble_eq_true rfl) (by decide) (by decide) (Nat.le_refl _) (Nat.le_refl _) d_Ws_over_41 (fun v h1 hp => ?_)
      obtain ⟨rfl, rfl⟩ := hp
      refine a_lmul X d_Ws_over_44 ?_
      refine ab_topl (lN_mul _ _) ?_
      refine a_ladd X d_Ws_over_45 ?_
      refine ab_topl (lN_add _ _) ?_
      refine a_lstore_n X 3 d_Ws_over_46 rfl (by decide) ?_
      refine a_incN X d_Ws_over_47 rfl (by decide) ?_
      refine a_goto X 17 d_Ws_over_50 (by decide) ?_
      refine ab_sub [(0, .ref 54), (1, .int (nI p)), (2, .int (nI st)), (3, .long (lN (sumR (fun y => w1.2.2.2.2.1 y st * lonR cuC s r.2.2 w1.1 w1.2.2.1 (p - y) y st) (p - 2) (i + 1)))), (5, .int (nI ((p - 2) + (i + 1))))] rfl ?_
      exact ih (i + 1) (by omega) (by omega)
