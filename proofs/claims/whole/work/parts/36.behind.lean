set_option maxHeartbeats 4000000 in
set_option maxRecDepth 20000 in
theorem c_shp_w {E : ab_E} {l : Launch} {r : hR} {s : hS} {w c : hW} {b : hB} {d : hD} {k : hK} {t : hT} {Z : List ab_C} (hr : okR r) (hs : okS s) : ab_Con E l y_Ws_showPlaces b_Ws_showPlaces 3 none 2 47 [.ref 16] (hc r s w c b d k t ++ Z) 0 0 (fun v h1 => v = none ∧ ∃ f : hG, (∀ a b, a < r.2.2 → b < s.2.2 → f a b = shoR id s r a b) ∧ h1 = hc r s (f, w.2) c b d k t ++ Z) := by
  obtain ⟨hn, hsg⟩ := hr
  obtain ⟨hq, hw, hm⟩ := hs
  refine ab_con (own := "HiddenRows$WaySums") (ini := false) (by decide) (fun h => by cases h) rfl (Nat.le_of_ble_eq_true rfl) ?_
  intro G m X
  show ab_R E G m 3 0 0 0 [(0, .ref 16)] [] (hc r s w c b d k t ++ Z)
  refine a_iconst X (v := nI 0) d_Ws_showPlaces_0 (by decide) ?_
  refine a_istore_n X 1 d_Ws_showPlaces_1 rfl (by decide) ?_
  refine ab_sub [(0, .ref 16), (1, .int (nI 0))] rfl ?_
  suffices LP : ∀ (mm p : Nat) (f : hG), (∀ a b, a < p → b < s.2.2 → f a b = shoR id s r a b) → p ≤ r.2.2 → r.2.2 - p < mm → ab_R E G m 3 0 0 2 [(0, .ref 16), (1, .int (nI p))] [] (hc r s (f, w.2) c b d k t ++ Z) from LP (r.2.2 + 1) 0 w.1 (fun a b h => by omega) (by omega) (by omega)
  intro mm
  induction mm with
  | zero => intro p f hf h1 h2; exfalso; omega
  | succ mm ih =>
    intro p f hf h1 h2
    refine a_iload_n X 1 d_Ws_showPlaces_2 rfl rfl ?_
    refine a_aload_n X 0 d_Ws_showPlaces_3 rfl rfl ?_
    refine a_get X ff_Ws_32 d_Ws_showPlaces_4 hq_15 rfl ?_
    refine a_get X ff_Ws_47 d_Ws_showPlaces_7 hq_1 rfl ?_
    refine a_icmp_geN X 52 (by omega) (by omega) d_Ws_showPlaces_10 (by decide) (fun c10 => ?_) (fun c10 => ?_)
    ·
      exact a_vret X d_Ws_showPlaces_52 (Nat.le_refl _) (Nat.le_refl _) ⟨rfl, f, fun a b h hb => hf a b (by omega) hb, rfl⟩
    ·
      refine a_iconst X (v := nI 0) d_Ws_showPlaces_13 (by decide) ?_
      refine a_istore_n X 2 d_Ws_showPlaces_14 rfl (by decide) ?_
      refine ab_sub [(0, .ref 16), (1, .int (nI p)), (2, .int (nI 0))] rfl ?_
      suffices LP2 : ∀ (mm2 y : Nat) (g : hG), (∀ a b, a < p ∨ (a = p ∧ b < y) → b < s.2.2 → g a b = shoR id s r a b) → y ≤ s.2.2 → s.2.2 - y < mm2 → ab_R E G m 3 0 0 15 [(0, .ref 16), (1, .int (nI p)), (2, .int (nI y))] [] (hc r s (g, w.2) c b d k t ++ Z) from LP2 (s.2.2 + 1) 0 f (fun a b h hb => hf a b (by omega) hb) (by omega) (by omega)
      intro mm2
      induction mm2 with
      | zero => intro y g hg h3 h4; exfalso; omega
      | succ mm2 ih2 =>
        intro y g hg h3 h4
        refine a_iload_n X 2 d_Ws_showPlaces_15 rfl rfl ?_
        refine a_aload_n X 0 d_Ws_showPlaces_16 rfl rfl ?_
        refine a_get X ff_Ws_36 d_Ws_showPlaces_17 hq_15 rfl ?_
        refine a_get X ff_Ws_52 d_Ws_showPlaces_20 hq_4 rfl ?_
        refine a_icmp_geN X 46 (by omega) (by omega) d_Ws_showPlaces_23 (by decide) (fun c23 => ?_) (fun c23 => ?_)
        ·
          refine a_incN X d_Ws_showPlaces_46 rfl (by decide) ?_
          refine a_goto X 2 d_Ws_showPlaces_49 (by decide) ?_
          refine ab_sub [(0, .ref 16), (1, .int (nI (p + 1)))] rfl ?_
          exact ih (p + 1) g (fun a b h hb => hg a b (by omega) hb) (by omega) (by omega)
        ·
          refine a_aload_n X 0 d_Ws_showPlaces_26 rfl rfl ?_
          refine a_get X ff_Ws_11 d_Ws_showPlaces_27 hq_15 rfl ?_
          refine a_iload_n X 1 d_Ws_showPlaces_30 rfl rfl ?_
          refine a_aald X d_Ws_showPlaces_31 hq_16 rfl rfl (ab_ix_nI (by omega) (by decide)) (hg_sh (by omega)) ?_
          refine a_iload_n X 2 d_Ws_showPlaces_32 rfl rfl ?_
          refine a_aload_n X 0 d_Ws_showPlaces_33 rfl rfl ?_
          refine a_iload_n X 1 d_Ws_showPlaces_34 rfl rfl ?_
          refine a_iload_n X 2 d_Ws_showPlaces_35 rfl rfl ?_
          refine a_callV X (a := 15) (As := [.int (nI _), .int (nI _)]) hq_15 rfl fb_Ws_showOf lk_Ws_90 im_Ws_showOf se_Ws_showOf (c_sho_w hw (by omega) (by omega) hsg) rfl rfl (Nat.le_of_ble_eq_true rfl) (by decide) (by decide) (Nat.le_refl _) (Nat.le_refl _) d_Ws_showPlaces_36 (fun v h1 hp => ?_)
          obtain ⟨rfl, rfl⟩ := hp
          refine a_last X d_Ws_showPlaces_39 (hr_sh (by omega)) rfl (ab_ix_nI (by omega) (by decide)) ?_
          refine ab_hp (hw_sh (by omega)) ?_
          refine a_incN X d_Ws_showPlaces_40 rfl (by decide) ?_
          refine a_goto X 15 d_Ws_showPlaces_43 (by decide) ?_
          refine ab_sub [(0, .ref 16), (1, .int (nI p)), (2, .int (nI (y + 1)))] rfl ?_
          exact ih2 (y + 1) (up2 g p y (shoR id s r p y)) (fun a b h hb => by
            rw [up2_at]
            split
            · next e => rw [e.1, e.2]
            · exact hg a b (by omega) hb) (by omega) (by omega)
set_option maxHeartbeats 4000000 in
set_option maxRecDepth 20000 in
theorem c_sfb_w {E : ab_E} {l : Launch} {r : hR} {s : hS} {w c : hW} {b : hB} {d : hD} {k : hK} {t : hT} {Z : List ab_C} (hr : okR r) (hs : okS s) : ab_Con E l y_Ws_sumFromBehind b_Ws_sumFromBehind 3 none 3 73 [.ref 16] (hc r s w c b d k t ++ Z) 0 0 (fun v h1 => v = none ∧ ∃ fr le : hG, (∀ b, b < s.2.2 → le r.2.2 b = id (s.1 b 1)) ∧ (∀ a b, a < r.2.2 → b < s.2.2 → fr a b = lonR id s r.2.2 w.1 le 0 a b) ∧ (∀ a b, a < r.2.2 → b < s.2.2 → le a b = outR id s fr a b) ∧ h1 = hc r s (w.1, fr, le, w.2.2.2) c b d k t ++ Z) := by
  obtain ⟨hn, hsg⟩ := hr
  obtain ⟨hq, hw, hm⟩ := hs
  refine ab_con (own := "HiddenRows$WaySums") (ini := false) (by decide) (fun h => by cases h) rfl (Nat.le_of_ble_eq_true rfl) ?_
  intro G m X
  show ab_R E G m 3 0 0 0 [(0, .ref 16)] [] (hc r s w c b d k t ++ Z)
  refine a_iconst X (v := nI 0) d_Ws_sumFromBehind_0 (by decide) ?_
  refine a_istore_n X 1 d_Ws_sumFromBehind_1 rfl (by decide) ?_
  refine ab_sub [(0, .ref 16), (1, .int (nI 0))] rfl ?_
  suffices LP : ∀ (mm y : Nat) (le : hG), (∀ b, b < y → le r.2.2 b = id (s.1 b 1)) → y ≤ s.2.2 → s.2.2 - y < mm → ab_R E G m 3 0 0 2 [(0, .ref 16), (1, .int (nI y))] [] (hc r s (w.1, w.2.1, le, w.2.2.2) c b d k t ++ Z) from LP (s.2.2 + 1) 0 w.2.2.1 (fun b h => by omega) (by omega) (by omega)
  intro mm
  induction mm with
  | zero => intro y le hA h1 h2; exfalso; omega
  | succ mm ih =>
    intro y le hA h1 h2
    refine a_iload_n X 1 d_Ws_sumFromBehind_2 rfl rfl ?_
    refine a_aload_n X 0 d_Ws_sumFromBehind_3 rfl rfl ?_
    refine a_get X ff_Ws_36 d_Ws_sumFromBehind_4 hq_15 rfl ?_
    refine a_get X ff_Ws_52 d_Ws_sumFromBehind_7 hq_4 rfl ?_
    refine a_icmp_geN X 48 (by omega) (by omega) d_Ws_sumFromBehind_10 (by decide) (fun c10 => ?_) (fun c10 => ?_)
    ·
      refine a_aload_n X 0 d_Ws_sumFromBehind_48 rfl rfl ?_
      refine a_get X ff_Ws_32 d_Ws_sumFromBehind_49 hq_15 rfl ?_
      refine a_get X ff_Ws_47 d_Ws_sumFromBehind_52 hq_1 rfl ?_
      refine a_iconst X (v := nI 1) d_Ws_sumFromBehind_55 (by decide) ?_
      refine a_isub X d_Ws_sumFromBehind_56 ?_
      refine ab_topi (pm_sub _) ?_
      refine a_istore_n X 1 d_Ws_sumFromBehind_57 rfl (by decide) ?_
      refine ab_sub [(0, .ref 16), (1, .int (nI r.2.2 + (-1)))] rfl ?_
      suffices LP3 : ∀ (m3 : Nat) (fr le : hG), m3 ≤ r.2.2 → (∀ b, b < s.2.2 → le r.2.2 b = id (s.1 b 1)) → (∀ a b, m3 ≤ a → a < r.2.2 → b < s.2.2 → fr a b = lonR id s r.2.2 w.1 le 0 a b) → (∀ a b, m3 ≤ a → a < r.2.2 → b < s.2.2 → le a b = outR id s fr a b) → ab_R E G m 3 0 0 58 [(0, .ref 16), (1, .int (nI m3 + (-1)))] [] (hc r s (w.1, fr, le, w.2.2.2) c b d k t ++ Z) from LP3 r.2.2 w.2.1 le (by omega) (fun b hb => hA b (by omega)) (fun a b h1 h2 => by omega) (fun a b h1 h2 => by omega)
      clear ih
      intro m3
      induction m3 with
      | zero =>
        intro fr le h3 hA hF hL
        refine a_iload_n X 1 d_Ws_sumFromBehind_58 rfl rfl ?_
        refine a_if_lt X 135 d_Ws_sumFromBehind_59 (by decide) (fun c59 => ?_) (fun c59 => ?_)
        ·
          exact a_vret X d_Ws_sumFromBehind_135 (Nat.le_refl _) (Nat.le_refl _) ⟨rfl, fr, le, hA, fun a b h hb => hF a b (by omega) h hb, fun a b h hb => hL a b (by omega) h hb, rfl⟩
        ·
          exact absurd (by decide) c59
      | succ p ih3 =>
        intro fr le h3 hA hF hL
        rw [pk_m1 p]
        refine a_iload_n X 1 d_Ws_sumFromBehind_58 rfl rfl ?_
        refine a_if_ltN X 135 (by omega) d_Ws_sumFromBehind_59 (by decide) ?_
        refine a_iconst X (v := nI 0) d_Ws_sumFromBehind_62 (by decide) ?_
        refine a_istore_n X 2 d_Ws_sumFromBehind_63 rfl (by decide) ?_
        refine ab_sub [(0, .ref 16), (1, .int (nI p)), (2, .int (nI 0))] rfl ?_
        suffices LP4 : ∀ (m4 y : Nat) (fr : hG), (∀ a b, p + 1 ≤ a → a < r.2.2 → b < s.2.2 → fr a b = lonR id s r.2.2 w.1 le 0 a b) → (∀ a b, p + 1 ≤ a → a < r.2.2 → b < s.2.2 → le a b = outR id s fr a b) → (∀ b, b < y → fr p b = lonR id s r.2.2 w.1 le 0 p b) → y ≤ s.2.2 → s.2.2 - y < m4 → ab_R E G m 3 0 0 64 [(0, .ref 16), (1, .int (nI p)), (2, .int (nI y))] [] (hc r s (w.1, fr, le, w.2.2.2) c b d k t ++ Z) from LP4 (s.2.2 + 1) 0 fr hF hL (fun b h => by omega) (by omega) (by omega)
        clear hF hL fr
        intro m4
        induction m4 with
        | zero => intro y fr hF hL hP h4 h5; exfalso; omega
        | succ m4 ih4 =>
          intro y fr hF hL hP h4 h5
          refine a_iload_n X 2 d_Ws_sumFromBehind_64 rfl rfl ?_
          refine a_aload_n X 0 d_Ws_sumFromBehind_65 rfl rfl ?_
          refine a_get X ff_Ws_36 d_Ws_sumFromBehind_66 hq_15 rfl ?_
          refine a_get X ff_Ws_52 d_Ws_sumFromBehind_69 hq_4 rfl ?_
          refine a_icmp_geN X 96 (by omega) (by omega) d_Ws_sumFromBehind_72 (by decide) (fun c72 => ?_) (fun c72 => ?_)
          ·
            refine a_iconst X (v := nI 0) d_Ws_sumFromBehind_96 (by decide) ?_
            refine a_istore_n X 2 d_Ws_sumFromBehind_97 rfl (by decide) ?_
            refine ab_sub [(0, .ref 16), (1, .int (nI p)), (2, .int (nI 0))] rfl ?_
            suffices LP5 : ∀ (m5 y : Nat) (le : hG), (∀ b, b < s.2.2 → le r.2.2 b = id (s.1 b 1)) → (∀ a b, p ≤ a → a < r.2.2 → b < s.2.2 → fr a b = lonR id s r.2.2 w.1 le 0 a b) → (∀ a b, p + 1 ≤ a → a < r.2.2 → b < s.2.2 → le a b = outR id s fr a b) → (∀ b, b < y → le p b = outR id s fr p b) → y ≤ s.2.2 → s.2.2 - y < m5 → ab_R E G m 3 0 0 98 [(0, .ref 16), (1, .int (nI p)), (2, .int (nI y))] [] (hc r s (w.1, fr, le, w.2.2.2) c b d k t ++ Z) from LP5 (s.2.2 + 1) 0 le hA (fun a b h1 h2 h3 => by
              by_cases e : a = p
              · subst e
                exact hP b (by omega)
              · exact hF a b (by omega) h2 h3) hL (fun b h => by omega) (by omega) (by omega)
            clear hA hF hL hP ih4 le
            intro m5
            induction m5 with
            | zero => intro y le hA hF hL hP h4 h5; exfalso; omega
            | succ m5 ih5 =>
              intro y le hA hF hL hP h4 h5
              refine a_iload_n X 2 d_Ws_sumFromBehind_98 rfl rfl ?_
              refine a_aload_n X 0 d_Ws_sumFromBehind_99 rfl rfl ?_
              refine a_get X ff_Ws_36 d_Ws_sumFromBehind_100 hq_15 rfl ?_
              refine a_get X ff_Ws_52 d_Ws_sumFromBehind_103 hq_4 rfl ?_
              refine a_icmp_geN X 129 (by omega) (by omega) d_Ws_sumFromBehind_106 (by decide) (fun c106 => ?_) (fun c106 => ?_)
              ·
                refine a_iinc X d_Ws_sumFromBehind_129 rfl (v := nI p + (-1)) rfl (by decide) ?_
                refine a_goto X 58 d_Ws_sumFromBehind_132 (by decide) ?_
                refine ab_sub [(0, .ref 16), (1, .int (nI p + (-1)))] rfl ?_
                exact ih3 fr le (by omega) hA hF (fun a b h1 h2 h3 => by
                  by_cases e : a = p
                  · subst e
                    exact hP b (by omega)
                  · exact hL a b (by omega) h2 h3)
              ·
                refine a_aload_n X 0 d_Ws_sumFromBehind_109 rfl rfl ?_
                refine a_get X ff_Ws_19 d_Ws_sumFromBehind_110 hq_15 rfl ?_
                refine a_iload_n X 1 d_Ws_sumFromBehind_113 rfl rfl ?_
                refine a_aald X d_Ws_sumFromBehind_114 hq_30 rfl rfl (ab_ix_nI (by omega) (by decide)) (hg_le (by omega)) ?_
                refine a_iload_n X 2 d_Ws_sumFromBehind_115 rfl rfl ?_
                refine a_aload_n X 0 d_Ws_sumFromBehind_116 rfl rfl ?_
                refine a_iload_n X 1 d_Ws_sumFromBehind_117 rfl rfl ?_
                refine a_iload_n X 2 d_Ws_sumFromBehind_118 rfl rfl ?_
                refine a_callV X (a := 15) (As := [.int (nI _), .int (nI _)]) hq_15 rfl fb_Ws_movedOutOf lk_Ws_101 im_Ws_movedOutOf se_Ws_movedOutOf (c_out_w hm hq (by omega) (by omega)) rfl rfl (Nat.le_of_ble_eq_true rfl) (by decide) (by decide) (Nat.le_refl _) (Nat.le_refl _) d_Ws_sumFromBehind_119 (fun v h1 hp => ?_)
                obtain ⟨rfl, rfl⟩ := hp
                refine a_last X d_Ws_sumFromBehind_122 (hr_le (by omega)) rfl (ab_ix_nI (by omega) (by decide)) ?_
                refine ab_hp (hw_le (by omega)) ?_
                refine a_incN X d_Ws_sumFromBehind_123 rfl (by decide) ?_
                refine a_goto X 98 d_Ws_sumFromBehind_126 (by decide) ?_
                refine ab_sub [(0, .ref 16), (1, .int (nI p)), (2, .int (nI (y + 1)))] rfl ?_
                exact ih5 (y + 1) (up2 le p y (outR id s fr p y)) (fun b hb => by rw [up2_row (by omega)]; exact hA b hb) (fun a b h1 h2 h3 => by rw [lonR_congr (g' := le) (fun z hz _ => by rw [up2_row (by omega)])]; exact hF a b h1 h2 h3) (fun a b h1 h2 h3 => by rw [up2_row (by omega)]; exact hL a b h1 h2 h3) (fun b h => by
                  rw [up2_at]
                  split
                  · next e => rw [e.2]
                  · exact hP b (by omega)) (by omega) (by omega)
          ·
            refine a_aload_n X 0 d_Ws_sumFromBehind_75 rfl rfl ?_
            refine a_get X ff_Ws_16 d_Ws_sumFromBehind_76 hq_15 rfl ?_
            refine a_iload_n X 1 d_Ws_sumFromBehind_79 rfl rfl ?_
            refine a_aald X d_Ws_sumFromBehind_80 hq_23 rfl rfl (ab_ix_nI (by omega) (by decide)) (hg_fr (by omega)) ?_
            refine a_iload_n X 2 d_Ws_sumFromBehind_81 rfl rfl ?_
            refine a_aload_n X 0 d_Ws_sumFromBehind_82 rfl rfl ?_
            refine a_iconst X (v := nI 0) d_Ws_sumFromBehind_83 (by decide) ?_
            refine a_iload_n X 1 d_Ws_sumFromBehind_84 rfl rfl ?_
            refine a_iload_n X 2 d_Ws_sumFromBehind_85 rfl rfl ?_
            refine a_callV X (a := 15) (As := [.int (nI _), .int (nI _), .int (nI _)]) hq_15 rfl fb_Ws_longerThan lk_Ws_63 im_Ws_longerThan se_Ws_longerThan (c_lon_w hw hn (by omega) (by omega) (by omega)) rfl rfl (Nat.le_of_ble_eq_true rfl) (by decide) (by decide) (Nat.le_refl _) (Nat.le_refl _) d_Ws_sumFromBehind_86 (fun v h1 hp => ?_)
            obtain ⟨rfl, rfl⟩ := hp
            refine a_last X d_Ws_sumFromBehind_89 (hr_fr (by omega)) rfl (ab_ix_nI (by omega) (by decide)) ?_
            refine ab_hp (hw_fr (by omega)) ?_
            refine a_incN X d_Ws_sumFromBehind_90 rfl (by decide) ?_
            refine a_goto X 64 d_Ws_sumFromBehind_93 (by decide) ?_
            refine ab_sub [(0, .ref 16), (1, .int (nI p)), (2, .int (nI (y + 1)))] rfl ?_
            exact ih4 (y + 1) (up2 fr p y (lonR id s r.2.2 w.1 le 0 p y)) (fun a b h1 h2 h3 => by rw [up2_row (by omega)]; exact hF a b h1 h2 h3) (fun a b h1 h2 h3 => by rw [outR_congr (up2_row (by omega))]; exact hL a b h1 h2 h3) (fun b h => by
              rw [up2_at]
              split
              · next e => rw [e.2]
              · exact hP b (by omega)) (by omega) (by omega)
    ·
      refine a_aload_n X 0 d_Ws_sumFromBehind_13 rfl rfl ?_
      refine a_get X ff_Ws_19 d_Ws_sumFromBehind_14 hq_15 rfl ?_
      refine a_aload_n X 0 d_Ws_sumFromBehind_17 rfl rfl ?_
      refine a_get X ff_Ws_32 d_Ws_sumFromBehind_18 hq_15 rfl ?_
      refine a_get X ff_Ws_47 d_Ws_sumFromBehind_21 hq_1 rfl ?_
      refine a_aald X d_Ws_sumFromBehind_24 hq_30 rfl rfl (ab_ix_nI (by omega) (by decide)) (hg_le (by omega)) ?_
      refine a_iload_n X 1 d_Ws_sumFromBehind_25 rfl rfl ?_
      refine a_aload_n X 0 d_Ws_sumFromBehind_26 rfl rfl ?_
      refine a_aload_n X 0 d_Ws_sumFromBehind_27 rfl rfl ?_
      refine a_get X ff_Ws_36 d_Ws_sumFromBehind_28 hq_15 rfl ?_
      refine a_get X ff_Ws_78 d_Ws_sumFromBehind_31 hq_4 rfl ?_
      refine a_iload_n X 1 d_Ws_sumFromBehind_34 rfl rfl ?_
      refine a_aald X d_Ws_sumFromBehind_35 hq_5 rfl rfl (ab_ix_nI (by omega) (by decide)) (hg_wt (by omega)) ?_
      refine a_iconst X (v := nI 1) d_Ws_sumFromBehind_36 (by decide) ?_
      refine a_iald X d_Ws_sumFromBehind_37 (hr_wt (by omega)) rfl (ab_ix_nI (by omega) (by decide)) ?_
      refine a_callV X (a := 15) (As := [.int (nI _)]) hq_15 rfl fb_Ws_cut lk_Ws_71 im_Ws_cut se_Ws_cut (c_cut_w (by have := hw y 1; omega)) rfl rfl (Nat.le_of_ble_eq_true rfl) (by decide) (by decide) (Nat.le_refl _) (Nat.le_refl _) d_Ws_sumFromBehind_38 (fun v h1 hp => ?_)
      obtain ⟨rfl, rfl⟩ := hp
      refine a_last X d_Ws_sumFromBehind_41 (hr_le (by omega)) rfl (ab_ix_nI (by omega) (by decide)) ?_
      refine ab_hp (hw_le (by omega)) ?_
      refine a_incN X d_Ws_sumFromBehind_42 rfl (by decide) ?_
      refine a_goto X 2 d_Ws_sumFromBehind_45 (by decide) ?_
      refine ab_sub [(0, .ref 16), (1, .int (nI (y + 1)))] rfl ?_
      exact ih (y + 1) (up2 le r.2.2 y (id (s.1 y 1))) (fun b h => by
        rw [up2_at]
        split
        · next e => rw [e.2]
        · exact hA b (by omega)) (by omega) (by omega)
set_option maxHeartbeats 4000000 in
set_option maxRecDepth 20000 in
theorem c_shp_c {E : ab_E} {l : Launch} {r : hR} {s : hS} {w c : hW} {b : hB} {d : hD} {k : hK} {t : hT} {Z : List ab_C} (hr : okR r) (hs : okS s) : ab_Con E l y_Ws_showPlaces b_Ws_showPlaces 3 none 2 47 [.ref 54] (hc r s w c b d k t ++ Z) 0 0 (fun v h1 => v = none ∧ ∃ f : hG, (∀ a b, a < r.2.2 → b < s.2.2 → f a b = shoR cuC s r a b) ∧ h1 = hc r s w (f, c.2) b d k t ++ Z) := by
  obtain ⟨hn, hsg⟩ := hr
  obtain ⟨hq, hw, hm⟩ := hs
  refine ab_con (own := "HiddenRows$WaySums") (ini := false) (by decide) (fun h => by cases h) rfl (Nat.le_of_ble_eq_true rfl) ?_
  intro G m X
  show ab_R E G m 3 0 0 0 [(0, .ref 54)] [] (hc r s w c b d k t ++ Z)
  refine a_iconst X (v := nI 0) d_Ws_showPlaces_0 (by decide) ?_
  refine a_istore_n X 1 d_Ws_showPlaces_1 rfl (by decide) ?_
  refine ab_sub [(0, .ref 54), (1, .int (nI 0))] rfl ?_
  suffices LP : ∀ (mm p : Nat) (f : hG), (∀ a b, a < p → b < s.2.2 → f a b = shoR cuC s r a b) → p ≤ r.2.2 → r.2.2 - p < mm → ab_R E G m 3 0 0 2 [(0, .ref 54), (1, .int (nI p))] [] (hc r s w (f, c.2) b d k t ++ Z) from LP (r.2.2 + 1) 0 c.1 (fun a b h => by omega) (by omega) (by omega)
  intro mm
  induction mm with
  | zero => intro p f hf h1 h2; exfalso; omega
  | succ mm ih =>
    intro p f hf h1 h2
    refine a_iload_n X 1 d_Ws_showPlaces_2 rfl rfl ?_
    refine a_aload_n X 0 d_Ws_showPlaces_3 rfl rfl ?_
    refine a_get X ff_Ws_32 d_Ws_showPlaces_4 hq_53 rfl ?_
    refine a_get X ff_Ws_47 d_Ws_showPlaces_7 hq_1 rfl ?_
    refine a_icmp_geN X 52 (by omega) (by omega) d_Ws_showPlaces_10 (by decide) (fun c10 => ?_) (fun c10 => ?_)
    ·
      exact a_vret X d_Ws_showPlaces_52 (Nat.le_refl _) (Nat.le_refl _) ⟨rfl, f, fun a b h hb => hf a b (by omega) hb, rfl⟩
    ·
      refine a_iconst X (v := nI 0) d_Ws_showPlaces_13 (by decide) ?_
      refine a_istore_n X 2 d_Ws_showPlaces_14 rfl (by decide) ?_
      refine ab_sub [(0, .ref 54), (1, .int (nI p)), (2, .int (nI 0))] rfl ?_
      suffices LP2 : ∀ (mm2 y : Nat) (g : hG), (∀ a b, a < p ∨ (a = p ∧ b < y) → b < s.2.2 → g a b = shoR cuC s r a b) → y ≤ s.2.2 → s.2.2 - y < mm2 → ab_R E G m 3 0 0 15 [(0, .ref 54), (1, .int (nI p)), (2, .int (nI y))] [] (hc r s w (g, c.2) b d k t ++ Z) from LP2 (s.2.2 + 1) 0 f (fun a b h hb => hf a b (by omega) hb) (by omega) (by omega)
      intro mm2
      induction mm2 with
      | zero => intro y g hg h3 h4; exfalso; omega
      | succ mm2 ih2 =>
        intro y g hg h3 h4
        refine a_iload_n X 2 d_Ws_showPlaces_15 rfl rfl ?_
        refine a_aload_n X 0 d_Ws_showPlaces_16 rfl rfl ?_
        refine a_get X ff_Ws_36 d_Ws_showPlaces_17 hq_53 rfl ?_
        refine a_get X ff_Ws_52 d_Ws_showPlaces_20 hq_4 rfl ?_
        refine a_icmp_geN X 46 (by omega) (by omega) d_Ws_showPlaces_23 (by decide) (fun c23 => ?_) (fun c23 => ?_)
        ·
          refine a_incN X d_Ws_showPlaces_46 rfl (by decide) ?_
          refine a_goto X 2 d_Ws_showPlaces_49 (by decide) ?_
          refine ab_sub [(0, .ref 54), (1, .int (nI (p + 1)))] rfl ?_
          exact ih (p + 1) g (fun a b h hb => hg a b (by omega) hb) (by omega) (by omega)
        ·
          refine a_aload_n X 0 d_Ws_showPlaces_26 rfl rfl ?_
          refine a_get X ff_Ws_11 d_Ws_showPlaces_27 hq_53 rfl ?_
          refine a_iload_n X 1 d_Ws_showPlaces_30 rfl rfl ?_
          refine a_aald X d_Ws_showPlaces_31 hq_54 rfl rfl (ab_ix_nI (by omega) (by decide)) (hg_csh (by omega)) ?_
          refine a_iload_n X 2 d_Ws_showPlaces_32 rfl rfl ?_
          refine a_aload_n X 0 d_Ws_showPlaces_33 rfl rfl ?_
          refine a_iload_n X 1 d_Ws_showPlaces_34 rfl rfl ?_
          refine a_iload_n X 2 d_Ws_showPlaces_35 rfl rfl ?_
          refine a_callV X (a := 53) (As := [.int (nI _), .int (nI _)]) hq_53 rfl fb_Ws_showOf lk_Ws_90 im_Ws_showOf se_Ws_showOf (c_sho_c hw (by omega) (by omega) hsg) rfl rfl (Nat.le_of_ble_eq_true rfl) (by decide) (by decide) (Nat.le_refl _) (Nat.le_refl _) d_Ws_showPlaces_36 (fun v h1 hp => ?_)
          obtain ⟨rfl, rfl⟩ := hp
          refine a_last X d_Ws_showPlaces_39 (hr_csh (by omega)) rfl (ab_ix_nI (by omega) (by decide)) ?_
          refine ab_hp (hw_csh (by omega)) ?_
          refine a_incN X d_Ws_showPlaces_40 rfl (by decide) ?_
          refine a_goto X 15 d_Ws_showPlaces_43 (by decide) ?_
          refine ab_sub [(0, .ref 54), (1, .int (nI p)), (2, .int (nI (y + 1)))] rfl ?_
          exact ih2 (y + 1) (up2 g p y (shoR cuC s r p y)) (fun a b h hb => by
            rw [up2_at]
            split
            · next e => rw [e.1, e.2]
            · exact hg a b (by omega) hb) (by omega) (by omega)
set_option maxHeartbeats 4000000 in
set_option maxRecDepth 20000 in
theorem c_sfb_c {E : ab_E} {l : Launch} {r : hR} {s : hS} {w c : hW} {b : hB} {d : hD} {k : hK} {t : hT} {Z : List ab_C} (hr : okR r) (hs : okS s) : ab_Con E l y_Ws_sumFromBehind b_Ws_sumFromBehind 3 none 3 73 [.ref 54] (hc r s w c b d k t ++ Z) 0 0 (fun v h1 => v = none ∧ ∃ fr le : hG, (∀ b, b < s.2.2 → le r.2.2 b = cuC (s.1 b 1)) ∧ (∀ a b, a < r.2.2 → b < s.2.2 → fr a b = lonR cuC s r.2.2 c.1 le 0 a b) ∧ (∀ a b, a < r.2.2 → b < s.2.2 → le a b = outR cuC s fr a b) ∧ h1 = hc r s w (c.1, fr, le, c.2.2.2) b d k t ++ Z) := by
  obtain ⟨hn, hsg⟩ := hr
  obtain ⟨hq, hw, hm⟩ := hs
  refine ab_con (own := "HiddenRows$WaySums") (ini := false) (by decide) (fun h => by cases h) rfl (Nat.le_of_ble_eq_true rfl) ?_
  intro G m X
  show ab_R E G m 3 0 0 0 [(0, .ref 54)] [] (hc r s w c b d k t ++ Z)
  refine a_iconst X (v := nI 0) d_Ws_sumFromBehind_0 (by decide) ?_
  refine a_istore_n X 1 d_Ws_sumFromBehind_1 rfl (by decide) ?_
  refine ab_sub [(0, .ref 54), (1, .int (nI 0))] rfl ?_
  suffices LP : ∀ (mm y : Nat) (le : hG), (∀ b, b < y → le r.2.2 b = cuC (s.1 b 1)) → y ≤ s.2.2 → s.2.2 - y < mm → ab_R E G m 3 0 0 2 [(0, .ref 54), (1, .int (nI y))] [] (hc r s w (c.1, c.2.1, le, c.2.2.2) b d k t ++ Z) from LP (s.2.2 + 1) 0 c.2.2.1 (fun b h => by omega) (by omega) (by omega)
  intro mm
  induction mm with
  | zero => intro y le hA h1 h2; exfalso; omega
  | succ mm ih =>
    intro y le hA h1 h2
    refine a_iload_n X 1 d_Ws_sumFromBehind_2 rfl rfl ?_
    refine a_aload_n X 0 d_Ws_sumFromBehind_3 rfl rfl ?_
    refine a_get X ff_Ws_36 d_Ws_sumFromBehind_4 hq_53 rfl ?_
    refine a_get X ff_Ws_52 d_Ws_sumFromBehind_7 hq_4 rfl ?_
    refine a_icmp_geN X 48 (by omega) (by omega) d_Ws_sumFromBehind_10 (by decide) (fun c10 => ?_) (fun c10 => ?_)
    ·
      refine a_aload_n X 0 d_Ws_sumFromBehind_48 rfl rfl ?_
      refine a_get X ff_Ws_32 d_Ws_sumFromBehind_49 hq_53 rfl ?_
      refine a_get X ff_Ws_47 d_Ws_sumFromBehind_52 hq_1 rfl ?_
      refine a_iconst X (v := nI 1) d_Ws_sumFromBehind_55 (by decide) ?_
      refine a_isub X d_Ws_sumFromBehind_56 ?_
      refine ab_topi (pm_sub _) ?_
      refine a_istore_n X 1 d_Ws_sumFromBehind_57 rfl (by decide) ?_
      refine ab_sub [(0, .ref 54), (1, .int (nI r.2.2 + (-1)))] rfl ?_
      suffices LP3 : ∀ (m3 : Nat) (fr le : hG), m3 ≤ r.2.2 → (∀ b, b < s.2.2 → le r.2.2 b = cuC (s.1 b 1)) → (∀ a b, m3 ≤ a → a < r.2.2 → b < s.2.2 → fr a b = lonR cuC s r.2.2 c.1 le 0 a b) → (∀ a b, m3 ≤ a → a < r.2.2 → b < s.2.2 → le a b = outR cuC s fr a b) → ab_R E G m 3 0 0 58 [(0, .ref 54), (1, .int (nI m3 + (-1)))] [] (hc r s w (c.1, fr, le, c.2.2.2) b d k t ++ Z) from LP3 r.2.2 c.2.1 le (by omega) (fun b hb => hA b (by omega)) (fun a b h1 h2 => by omega) (fun a b h1 h2 => by omega)
      clear ih
      intro m3
      induction m3 with
      | zero =>
        intro fr le h3 hA hF hL
        refine a_iload_n X 1 d_Ws_sumFromBehind_58 rfl rfl ?_
        refine a_if_lt X 135 d_Ws_sumFromBehind_59 (by decide) (fun c59 => ?_) (fun c59 => ?_)
        ·
          exact a_vret X d_Ws_sumFromBehind_135 (Nat.le_refl _) (Nat.le_refl _) ⟨rfl, fr, le, hA, fun a b h hb => hF a b (by omega) h hb, fun a b h hb => hL a b (by omega) h hb, rfl⟩
        ·
          exact absurd (by decide) c59
      | succ p ih3 =>
        intro fr le h3 hA hF hL
        rw [pk_m1 p]
        refine a_iload_n X 1 d_Ws_sumFromBehind_58 rfl rfl ?_
        refine a_if_ltN X 135 (by omega) d_Ws_sumFromBehind_59 (by decide) ?_
        refine a_iconst X (v := nI 0) d_Ws_sumFromBehind_62 (by decide) ?_
        refine a_istore_n X 2 d_Ws_sumFromBehind_63 rfl (by decide) ?_
        refine ab_sub [(0, .ref 54), (1, .int (nI p)), (2, .int (nI 0))] rfl ?_
        suffices LP4 : ∀ (m4 y : Nat) (fr : hG), (∀ a b, p + 1 ≤ a → a < r.2.2 → b < s.2.2 → fr a b = lonR cuC s r.2.2 c.1 le 0 a b) → (∀ a b, p + 1 ≤ a → a < r.2.2 → b < s.2.2 → le a b = outR cuC s fr a b) → (∀ b, b < y → fr p b = lonR cuC s r.2.2 c.1 le 0 p b) → y ≤ s.2.2 → s.2.2 - y < m4 → ab_R E G m 3 0 0 64 [(0, .ref 54), (1, .int (nI p)), (2, .int (nI y))] [] (hc r s w (c.1, fr, le, c.2.2.2) b d k t ++ Z) from LP4 (s.2.2 + 1) 0 fr hF hL (fun b h => by omega) (by omega) (by omega)
        clear hF hL fr
        intro m4
        induction m4 with
        | zero => intro y fr hF hL hP h4 h5; exfalso; omega
        | succ m4 ih4 =>
          intro y fr hF hL hP h4 h5
          refine a_iload_n X 2 d_Ws_sumFromBehind_64 rfl rfl ?_
          refine a_aload_n X 0 d_Ws_sumFromBehind_65 rfl rfl ?_
          refine a_get X ff_Ws_36 d_Ws_sumFromBehind_66 hq_53 rfl ?_
          refine a_get X ff_Ws_52 d_Ws_sumFromBehind_69 hq_4 rfl ?_
          refine a_icmp_geN X 96 (by omega) (by omega) d_Ws_sumFromBehind_72 (by decide) (fun c72 => ?_) (fun c72 => ?_)
          ·
            refine a_iconst X (v := nI 0) d_Ws_sumFromBehind_96 (by decide) ?_
            refine a_istore_n X 2 d_Ws_sumFromBehind_97 rfl (by decide) ?_
            refine ab_sub [(0, .ref 54), (1, .int (nI p)), (2, .int (nI 0))] rfl ?_
            suffices LP5 : ∀ (m5 y : Nat) (le : hG), (∀ b, b < s.2.2 → le r.2.2 b = cuC (s.1 b 1)) → (∀ a b, p ≤ a → a < r.2.2 → b < s.2.2 → fr a b = lonR cuC s r.2.2 c.1 le 0 a b) → (∀ a b, p + 1 ≤ a → a < r.2.2 → b < s.2.2 → le a b = outR cuC s fr a b) → (∀ b, b < y → le p b = outR cuC s fr p b) → y ≤ s.2.2 → s.2.2 - y < m5 → ab_R E G m 3 0 0 98 [(0, .ref 54), (1, .int (nI p)), (2, .int (nI y))] [] (hc r s w (c.1, fr, le, c.2.2.2) b d k t ++ Z) from LP5 (s.2.2 + 1) 0 le hA (fun a b h1 h2 h3 => by
              by_cases e : a = p
              · subst e
                exact hP b (by omega)
              · exact hF a b (by omega) h2 h3) hL (fun b h => by omega) (by omega) (by omega)
            clear hA hF hL hP ih4 le
            intro m5
            induction m5 with
            | zero => intro y le hA hF hL hP h4 h5; exfalso; omega
            | succ m5 ih5 =>
              intro y le hA hF hL hP h4 h5
              refine a_iload_n X 2 d_Ws_sumFromBehind_98 rfl rfl ?_
              refine a_aload_n X 0 d_Ws_sumFromBehind_99 rfl rfl ?_
              refine a_get X ff_Ws_36 d_Ws_sumFromBehind_100 hq_53 rfl ?_
              refine a_get X ff_Ws_52 d_Ws_sumFromBehind_103 hq_4 rfl ?_
              refine a_icmp_geN X 129 (by omega) (by omega) d_Ws_sumFromBehind_106 (by decide) (fun c106 => ?_) (fun c106 => ?_)
              ·
                refine a_iinc X d_Ws_sumFromBehind_129 rfl (v := nI p + (-1)) rfl (by decide) ?_
                refine a_goto X 58 d_Ws_sumFromBehind_132 (by decide) ?_
                refine ab_sub [(0, .ref 54), (1, .int (nI p + (-1)))] rfl ?_
                exact ih3 fr le (by omega) hA hF (fun a b h1 h2 h3 => by
                  by_cases e : a = p
                  · subst e
                    exact hP b (by omega)
                  · exact hL a b (by omega) h2 h3)
              ·
                refine a_aload_n X 0 d_Ws_sumFromBehind_109 rfl rfl ?_
                refine a_get X ff_Ws_19 d_Ws_sumFromBehind_110 hq_53 rfl ?_
                refine a_iload_n X 1 d_Ws_sumFromBehind_113 rfl rfl ?_
                refine a_aald X d_Ws_sumFromBehind_114 hq_68 rfl rfl (ab_ix_nI (by omega) (by decide)) (hg_cle (by omega)) ?_
                refine a_iload_n X 2 d_Ws_sumFromBehind_115 rfl rfl ?_
                refine a_aload_n X 0 d_Ws_sumFromBehind_116 rfl rfl ?_
                refine a_iload_n X 1 d_Ws_sumFromBehind_117 rfl rfl ?_
                refine a_iload_n X 2 d_Ws_sumFromBehind_118 rfl rfl ?_
                refine a_callV X (a := 53) (As := [.int (nI _), .int (nI _)]) hq_53 rfl fb_Ws_movedOutOf lk_Ws_101 im_Ws_movedOutOf se_Ws_movedOutOf (c_out_c hm hq (by omega) (by omega)) rfl rfl (Nat.le_of_ble_eq_true rfl) (by decide) (by decide) (Nat.le_refl _) (Nat.le_refl _) d_Ws_sumFromBehind_119 (fun v h1 hp => ?_)
                obtain ⟨rfl, rfl⟩ := hp
                refine a_last X d_Ws_sumFromBehind_122 (hr_cle (by omega)) rfl (ab_ix_nI (by omega) (by decide)) ?_
                refine ab_hp (hw_cle (by omega)) ?_
                refine a_incN X d_Ws_sumFromBehind_123 rfl (by decide) ?_
                refine a_goto X 98 d_Ws_sumFromBehind_126 (by decide) ?_
                refine ab_sub [(0, .ref 54), (1, .int (nI p)), (2, .int (nI (y + 1)))] rfl ?_
                exact ih5 (y + 1) (up2 le p y (outR cuC s fr p y)) (fun b hb => by rw [up2_row (by omega)]; exact hA b hb) (fun a b h1 h2 h3 => by rw [lonR_congr (g' := le) (fun z hz _ => by rw [up2_row (by omega)])]; exact hF a b h1 h2 h3) (fun a b h1 h2 h3 => by rw [up2_row (by omega)]; exact hL a b h1 h2 h3) (fun b h => by
                  rw [up2_at]
                  split
                  · next e => rw [e.2]
                  · exact hP b (by omega)) (by omega) (by omega)
          ·
            refine a_aload_n X 0 d_Ws_sumFromBehind_75 rfl rfl ?_
            refine a_get X ff_Ws_16 d_Ws_sumFromBehind_76 hq_53 rfl ?_
            refine a_iload_n X 1 d_Ws_sumFromBehind_79 rfl rfl ?_
            refine a_aald X d_Ws_sumFromBehind_80 hq_61 rfl rfl (ab_ix_nI (by omega) (by decide)) (hg_cfr (by omega)) ?_
            refine a_iload_n X 2 d_Ws_sumFromBehind_81 rfl rfl ?_
            refine a_aload_n X 0 d_Ws_sumFromBehind_82 rfl rfl ?_
            refine a_iconst X (v := nI 0) d_Ws_sumFromBehind_83 (by decide) ?_
            refine a_iload_n X 1 d_Ws_sumFromBehind_84 rfl rfl ?_
            refine a_iload_n X 2 d_Ws_sumFromBehind_85 rfl rfl ?_
            refine a_callV X (a := 53) (As := [.int (nI _), .int (nI _), .int (nI _)]) hq_53 rfl fb_Ws_longerThan lk_Ws_63 im_Ws_longerThan se_Ws_longerThan (c_lon_c hw hn (by omega) (by omega) (by omega)) rfl rfl (Nat.le_of_ble_eq_true rfl) (by decide) (by decide) (Nat.le_refl _) (Nat.le_refl _) d_Ws_sumFromBehind_86 (fun v h1 hp => ?_)
            obtain ⟨rfl, rfl⟩ := hp
            refine a_last X d_Ws_sumFromBehind_89 (hr_cfr (by omega)) rfl (ab_ix_nI (by omega) (by decide)) ?_
            refine ab_hp (hw_cfr (by omega)) ?_
            refine a_incN X d_Ws_sumFromBehind_90 rfl (by decide) ?_
            refine a_goto X 64 d_Ws_sumFromBehind_93 (by decide) ?_
            refine ab_sub [(0, .ref 54), (1, .int (nI p)), (2, .int (nI (y + 1)))] rfl ?_
            exact ih4 (y + 1) (up2 fr p y (lonR cuC s r.2.2 c.1 le 0 p y)) (fun a b h1 h2 h3 => by rw [up2_row (by omega)]; exact hF a b h1 h2 h3) (fun a b h1 h2 h3 => by rw [outR_congr (up2_row (by omega))]; exact hL a b h1 h2 h3) (fun b h => by
              rw [up2_at]
              split
              · next e => rw [e.2]
              · exact hP b (by omega)) (by omega) (by omega)
    ·
      refine a_aload_n X 0 d_Ws_sumFromBehind_13 rfl rfl ?_
      refine a_get X ff_Ws_19 d_Ws_sumFromBehind_14 hq_53 rfl ?_
      refine a_aload_n X 0 d_Ws_sumFromBehind_17 rfl rfl ?_
      refine a_get X ff_Ws_32 d_Ws_sumFromBehind_18 hq_53 rfl ?_
      refine a_get X ff_Ws_47 d_Ws_sumFromBehind_21 hq_1 rfl ?_
      refine a_aald X d_Ws_sumFromBehind_24 hq_68 rfl rfl (ab_ix_nI (by omega) (by decide)) (hg_cle (by omega)) ?_
      refine a_iload_n X 1 d_Ws_sumFromBehind_25 rfl rfl ?_
      refine a_aload_n X 0 d_Ws_sumFromBehind_26 rfl rfl ?_
      refine a_aload_n X 0 d_Ws_sumFromBehind_27 rfl rfl ?_
      refine a_get X ff_Ws_36 d_Ws_sumFromBehind_28 hq_53 rfl ?_
      refine a_get X ff_Ws_78 d_Ws_sumFromBehind_31 hq_4 rfl ?_
      refine a_iload_n X 1 d_Ws_sumFromBehind_34 rfl rfl ?_
      refine a_aald X d_Ws_sumFromBehind_35 hq_5 rfl rfl (ab_ix_nI (by omega) (by decide)) (hg_wt (by omega)) ?_
      refine a_iconst X (v := nI 1) d_Ws_sumFromBehind_36 (by decide) ?_
      refine a_iald X d_Ws_sumFromBehind_37 (hr_wt (by omega)) rfl (ab_ix_nI (by omega) (by decide)) ?_
      refine a_callV X (a := 53) (As := [.int (nI _)]) hq_53 rfl fb_Ws_cut lk_Ws_71 im_Ws_cut se_Ws_cut (c_cut_c (by have := hw y 1; omega)) rfl rfl (Nat.le_of_ble_eq_true rfl) (by decide) (by decide) (Nat.le_refl _) (Nat.le_refl _) d_Ws_sumFromBehind_38 (fun v h1 hp => ?_)
      obtain ⟨rfl, rfl⟩ := hp
      refine a_last X d_Ws_sumFromBehind_41 (hr_cle (by omega)) rfl (ab_ix_nI (by omega) (by decide)) ?_
      refine ab_hp (hw_cle (by omega)) ?_
      refine a_incN X d_Ws_sumFromBehind_42 rfl (by decide) ?_
      refine a_goto X 2 d_Ws_sumFromBehind_45 (by decide) ?_
      refine ab_sub [(0, .ref 54), (1, .int (nI (y + 1)))] rfl ?_
      exact ih (y + 1) (up2 le r.2.2 y (cuC (s.1 y 1))) (fun b h => by
        rw [up2_at]
        split
        · next e => rw [e.2]
        · exact hA b (by omega)) (by omega) (by omega)
