def zr (i : Nat) (f : Nat → Nat) : Nat → Nat := fun j => if j < i then 0 else f j
theorem zr_zero (f : Nat → Nat) : zr 0 f = f := by
  funext j
  show (if j < 0 then 0 else f j) = f j
  rw [if_neg (by omega)]
theorem zr_succ (i : Nat) (f : Nat → Nat) : va_up (zr i f) i 0 = zr (i + 1) f := by
  funext j
  show (if j = i then 0 else if j < i then 0 else f j) = if j < i + 1 then 0 else f j
  (repeat' split) <;> first | rfl | omega
theorem zr_at {i j : Nat} (f : Nat → Nat) (h : j < i) : zr i f j = 0 := if_pos h
theorem wtc_gap {ms : hA} {mp : hP} {a b c : Nat} (hc : c < 8 ^ mp.1) (h : ∀ u, okV ms.1 mp.1 u → cod u mp.1 < b → cod u mp.1 < a) (h1 : a ≤ c) (h2 : c < b) : wtc ms mp c = 0 := by
  refine wtc_n (fun hk => ?_)
  have e := cod_dgt (n := mp.1) (c := c) (p := mp.1) (Nat.le_refl _) hc
  rw [Nat.sub_self, Nat.pow_zero, Nat.div_one] at e
  have := h _ hk (by rw [e]; exact h2)
  rw [e] at this
  omega
theorem wtc_gapE {ms : hA} {mp : hP} {a c : Nat} (hc : c < 8 ^ mp.1) (h : ∀ u, okV ms.1 mp.1 u → cod u mp.1 < a) (h1 : a ≤ c) : wtc ms mp c = 0 := wtc_gap (b := c + 1) hc (fun u hu _ => h u hu) h1 (Nat.lt_succ_self _)
theorem wtc_cod {ms : hA} {mp : hP} {u : Nat → Nat} (h0 : 0 < mp.1) (hu : okV ms.1 mp.1 u) : wtc ms mp (cod u mp.1) = wac ms mp u mp.1 := by
  have hd : ∀ i, i < mp.1 → dgt mp.1 (cod u mp.1) i = u i := fun i hi => dgt_cod (fun j hj => (hu j hj).1) hi
  have hk : okV ms.1 mp.1 (dgt mp.1 (cod u mp.1)) := fun i hi => ⟨dgt_lt _ _ _, by rw [hd i hi, cbR_congr (fun j hj => hd j (by omega))]; exact (hu i hi).2⟩
  rw [wtc_y hk]
  exact wac_congr hd (Nat.le_refl _) h0
theorem wtc_lt {ms : hA} {mp : hP} (hn : mp.1 ≤ 6) (hw : ∀ i, ms.2.1 i ≤ 4) (hm : ∀ i, ms.2.2 i ≤ 4) (c : Nat) : wtc ms mp c < 2 ^ 63 := by
  by_cases h : okV ms.1 mp.1 (dgt mp.1 c)
  · rw [wtc_y h]
    refine Nat.lt_of_le_of_lt (wac_le hw hm _) (Nat.lt_of_le_of_lt (Nat.mul_le_mul_left 16 (Nat.pow_le_pow_right (by omega) hn)) (by decide))
  · rw [wtc_n h]
    omega
theorem Agg_b {n B : Nat} {g : Nat → Nat} {mc : hC} (h : Agg n g B mc) (hg : ∀ c, g c < 2 ^ 63) : mc.2.2.2.2.2.2.1 ≤ 10 ∧ ∀ j, j < mc.2.2.2.2.2.2.1 → mc.2.2.2.2.2.2.2.1 j < 2 ^ 63 := by
  obtain ⟨-, -, -, -, -, -, L, h6, h7, h8⟩ := h
  refine ⟨by rw [← h7]; exact h6.1, fun j hj => ?_⟩
  have e : L[j]? = some (L[j]'(by omega)) := List.getElem?_eq_getElem (by omega)
  have m := h6.2.2.1 _ (List.getElem_mem (show j < L.length by omega))
  rw [(h8 j _ e).1, m.2.2]
  exact hg _
set_option maxHeartbeats 4000000 in
set_option maxRecDepth 20000 in
theorem c_Mo_kno0 {E : ab_E} {l : Launch} {r : hR} {s : hS} {w c : hW} {b : hB} {d : hD} {k : hK} {t : hT} {ms mk : hA} {mp : hP} {mw : Nat → Int32} {mc : hC} {md : Nat × (Nat → Int32)} {mt : hF} {me : hE} (hn : mp.1 ≤ 6) (hq : ms.1 ≤ 4) (hw4 : ∀ i, ms.2.1 i ≤ 4) (hm4 : ∀ i, ms.2.2 i ≤ 4) (hsg : ∀ p, p < 6 → mp.2.1 p = -1 ∨ ∃ z, z < 4 ∧ mp.2.1 p = nI z) (hk : mc.1 = 0) : ab_Con E l y_Mo_know b_Mo_know 4 none 3 68 [.ref 204] (hc r s w c b d k t ++ hm ms mk mp mw mc md mt me) 0 0 (fun v h1 => ∃ (mw1 : Nat → Int32) (mc1 : hC), Agg mp.1 (wtc ms mp) (if mp.1 = 0 then 0 else 8 ^ mp.1) mc1 ∧ (mc.1 = 1 → mc1 = mc) ∧ v = none ∧ h1 = hc r s w c b d k t ++ hm ms mk mp mw1 mc1 md mt me) := by
  have hg63 := wtc_lt (ms := ms) (mp := mp) hn hw4 hm4
  refine ab_con (own := "HiddenRowsModel") (ini := false) (by decide) (fun h => by cases h) rfl (Nat.le_of_ble_eq_true rfl) ?_
  intro G m X
  show ab_R E G m 4 0 0 0 [(0, .ref 204)] [] (hc r s w c b d k t ++ hm ms mk mp mw mc md mt me)
  refine a_aload_n X 0 d_Mo_know_0 rfl rfl ?_
  refine a_get X ff_Mo_68 d_Mo_know_1 mq_203 rfl ?_
  refine a_if_eqN X 8 (by omega) d_Mo_know_4 (by decide) (fun c4 => ?_) (fun c4 => ?_)
  ·
    refine a_aload_n X 0 d_Mo_know_8 rfl rfl ?_
    refine a_iconst X (v := nI 1) d_Mo_know_9 (by decide) ?_
    refine a_put X ff_Mo_68 d_Mo_know_10 mq_203 (Nat.le_of_ble_eq_true rfl) rfl rfl ?_
    refine ab_hp mo_set ?_
    refine a_aload_n X 0 d_Mo_know_13 rfl rfl ?_
    refine a_lconst X (v := lN 0) d_Mo_know_14 (by decide) ?_
    refine a_put X ff_Mo_116 d_Mo_know_15 mq_203 (Nat.le_of_ble_eq_true rfl) rfl rfl ?_
    refine ab_hp mo_set ?_
    refine a_aload_n X 0 d_Mo_know_18 rfl rfl ?_
    refine a_iconst X (v := nI 0) d_Mo_know_19 (by decide) ?_
    refine a_put X ff_Mo_120 d_Mo_know_20 mq_203 (Nat.le_of_ble_eq_true rfl) rfl rfl ?_
    refine ab_hp mo_set ?_
    refine a_aload_n X 0 d_Mo_know_23 rfl rfl ?_
    refine a_iconst X (v := nI 0) d_Mo_know_24 (by decide) ?_
    refine a_put X ff_Mo_113 d_Mo_know_25 mq_203 (Nat.le_of_ble_eq_true rfl) rfl rfl ?_
    refine ab_hp mo_set ?_
    refine a_iconst X (v := nI 0) d_Mo_know_28 (by decide) ?_
    refine a_istore_n X 1 d_Mo_know_29 rfl (by decide) ?_
    refine ab_sub [(0, .ref 204), (1, .int (nI 0))] rfl ?_
    refine ab_hp (show _ = hc r s w c b d k t ++ hm ms mk mp mw (1, 0, 0, zr 0 mc.2.2.2.1, zr 0 mc.2.2.2.2.1, zr 0 mc.2.2.2.2.2.1, 0, mc.2.2.2.2.2.2.2) md mt me by rw [zr_zero, zr_zero, zr_zero]) ?_
    suffices LP : ∀ (mm i : Nat), i ≤ 24 → 24 - i < mm → ab_R E G m 4 0 0 30 [(0, .ref 204), (1, .int (nI i))] [] (hc r s w c b d k t ++ hm ms mk mp mw (1, 0, 0, zr i mc.2.2.2.1, zr i mc.2.2.2.2.1, zr 0 mc.2.2.2.2.2.1, 0, mc.2.2.2.2.2.2.2) md mt me) from LP 25 0 (by omega) (by omega)
    intro mm
    induction mm with
    | zero => intro i h1 h2; exfalso; omega
    | succ mm ih =>
      intro i h1 h2
      refine a_iload_n X 1 d_Mo_know_30 rfl rfl ?_
      refine a_bipush X (v := nI 24) d_Mo_know_31 (by decide) ?_
      refine a_icmp_geN X 56 (by omega) (by omega) d_Mo_know_33 (by decide) (fun c33 => ?_) (fun c33 => ?_)
      ·
        obtain rfl : i = 24 := by omega
        clear ih h1 h2
        refine a_iconst X (v := nI 0) d_Mo_know_56 (by decide) ?_
        refine a_istore_n X 1 d_Mo_know_57 rfl (by decide) ?_
        refine ab_sub [(0, .ref 204), (1, .int (nI 0))] rfl ?_
        suffices LP : ∀ (mm i : Nat), i ≤ 96 → 96 - i < mm → ab_R E G m 4 0 0 58 [(0, .ref 204), (1, .int (nI i))] [] (hc r s w c b d k t ++ hm ms mk mp mw (1, 0, 0, zr 24 mc.2.2.2.1, zr 24 mc.2.2.2.2.1, zr i mc.2.2.2.2.2.1, 0, mc.2.2.2.2.2.2.2) md mt me) from LP 97 0 (by omega) (by omega)
        clear mm
        intro mm
        induction mm with
        | zero => intro i h1 h2; exfalso; omega
        | succ mm ih =>
          intro i h1 h2
          refine a_iload_n X 1 d_Mo_know_58 rfl rfl ?_
          refine a_bipush X (v := nI 96) d_Mo_know_59 (by decide) ?_
          refine a_icmp_geN X 77 (by omega) (by omega) d_Mo_know_61 (by decide) (fun c61 => ?_) (fun c61 => ?_)
          ·
            obtain rfl : i = 96 := by omega
            clear ih h1 h2
            obtain ⟨mc0, hmc0⟩ : ∃ mc0 : hC, mc0 = (1, 0, 0, zr 24 mc.2.2.2.1, zr 24 mc.2.2.2.2.1, zr 96 mc.2.2.2.2.2.1, 0, mc.2.2.2.2.2.2.2) := ⟨_, rfl⟩
            rw [← hmc0]
            have hA0 : Agg mp.1 (wtc ms mp) 0 mc0 := by
              rw [hmc0]
              exact Agg_zero rfl rfl rfl (fun j hj => zr_at _ hj) (fun j hj => zr_at _ hj) (fun j hj => zr_at _ hj) rfl
            have hE : ∀ (mw1 : Nat → Int32) (mc1 : hC), Agg mp.1 (wtc ms mp) (if mp.1 = 0 then 0 else 8 ^ mp.1) mc1 → ab_R E G m 4 0 0 98 [(0, .ref 204), (1, .int (nI 0))] [] (hc r s w c b d k t ++ hm ms mk mp mw1 mc1 md mt me) := by
              intro mw1 mc1 hA1
              refine a_iload_n X 1 d_Mo_know_98 rfl rfl ?_
              refine a_if_eqN X 127 (by omega) d_Mo_know_99 (by decide) (fun c99 => ?_) (fun c99 => ?_)
              ·
                exact a_vret X d_Mo_know_127 (Nat.le_refl _) (Nat.le_refl _) ⟨mw1, mc1, hA1, fun e => absurd e (by omega), rfl, rfl⟩
              ·
                exact absurd c99 (by omega)
            have hL : 0 < mp.1 → ∀ (mm : Nat) (u : Nat → Nat) (mw1 : Nat → Int32) (mc1 : hC), okV ms.1 mp.1 u → (∀ i, i < mp.1 → mw1 i = nI (u i)) → Agg mp.1 (wtc ms mp) (cod u mp.1) mc1 → 8 ^ mp.1 - cod u mp.1 < mm → ab_R E G m 4 0 0 98 [(0, .ref 204), (1, .int (nI 1))] [] (hc r s w c b d k t ++ hm ms mk mp mw1 mc1 md mt me) := by
              intro hn0 mm
              induction mm with
              | zero => intro u mw1 mc1 h1 h2 h3 h4; exfalso; omega
              | succ mm ih =>
                intro u mw1 mc1 hu hv hA hmu
                have hcl := cod_lt (v := u) (p := mp.1) (fun i hi => (hu i hi).1)
                have hwc := wtc_cod (ms := ms) hn0 hu
                refine a_iload_n X 1 d_Mo_know_98 rfl rfl ?_
                refine a_if_eqN X 127 (by omega) d_Mo_know_99 (by decide) (fun c99 => ?_) (fun c99 => ?_)
                ·
                  exact absurd c99 (by omega)
                ·
                  refine a_aload_n X 0 d_Mo_know_102 rfl rfl ?_
                  refine a_callV X (a := 203) (As := []) mq_203 rfl fb_Mo_weightOf lk_Mo_127 im_Mo_weightOf se_Mo_weightOf (c_Mo_wof (vd := u) hn0 hn hw4 hm4 hsg (fun i hi => ⟨hv i hi, (hu i hi).1⟩)) rfl rfl (Nat.le_of_ble_eq_true rfl) (by decide) (by decide) (Nat.le_refl _) (Nat.le_refl _) d_Mo_know_103 (fun v h1 hp => ?_)
                  obtain ⟨rfl, rfl⟩ := hp
                  have hwl := hg63 (cod u mp.1)
                  rw [hwc] at hwl
                  refine a_lstore_n X 2 d_Mo_know_106 rfl (by decide) ?_
                  refine a_lload_n X 2 d_Mo_know_107 rfl rfl ?_
                  refine a_lconst X (v := lN 0) d_Mo_know_108 (by decide) ?_
                  refine a_lc_le X 118 hwl (by omega) d_Mo_know_109 d_Mo_know_110 (by decide) (fun c109 => ?_) (fun c109 => ?_)
                  ·
                    have hA2 : Agg mp.1 (wtc ms mp) (cod u mp.1 + 1) mc1 := Agg_skip1 hA (by rw [hwc]; omega)
                    refine a_aload_n X 0 d_Mo_know_118 rfl rfl ?_
                    refine a_iconst X (v := nI 0) d_Mo_know_119 (by decide) ?_
                    refine a_callV X (a := 203) (As := [.int (nI 0)]) mq_203 rfl fb_Mo_next lk_Mo_123 im_Mo_next se_Mo_next (c_Mo_nxt_n hn0 hn hq hu hv) rfl rfl (Nat.le_of_ble_eq_true rfl) (by decide) (by decide) (Nat.le_refl _) (Nat.le_refl _) d_Mo_know_120 (fun v h1 hp => ?_)
                    obtain ⟨mw2, hp, rfl⟩ := hp
                    rcases hp with ⟨u2, hu2, hv2, hge, hgap, rfl⟩ | ⟨hgap, rfl⟩
                    ·
                      refine a_istore_n X 1 d_Mo_know_123 rfl (by decide) ?_
                      refine a_goto X 98 d_Mo_know_124 (by decide) ?_
                      refine ab_sub [(0, .ref 204), (1, .int (nI 1))] rfl ?_
                      have hcl2 := cod_lt (v := u2) (p := mp.1) (fun i hi => (hu2 i hi).1)
                      exact ih u2 mw2 mc1 hu2 hv2 (Agg_to hA2 hge (fun c h1 h2 => wtc_gap (by omega) hgap h1 h2)) (by omega)
                    ·
                      refine a_istore_n X 1 d_Mo_know_123 rfl (by decide) ?_
                      refine a_goto X 98 d_Mo_know_124 (by decide) ?_
                      exact ab_sub _ rfl (hE mw2 mc1 (by rw [if_neg (by omega)]; exact Agg_to hA2 (by omega) (fun c h1 h2 => wtc_gapE h2 hgap h1)))
                  ·
                    refine a_aload_n X 0 d_Mo_know_113 rfl rfl ?_
                    refine a_lload_n X 2 d_Mo_know_114 rfl rfl ?_
                    refine a_callV X (a := 203) (As := [.long (lN _)]) mq_203 rfl fb_Mo_add lk_Mo_131 im_Mo_add se_Mo_add (c_Mo_add (vd := u) hwl hn (Agg_b hA hg63).1 (Agg_b hA hg63).2 (fun i hi => ⟨hv i hi, (hu i hi).1⟩)) rfl rfl (Nat.le_of_ble_eq_true rfl) (by decide) (by decide) (Nat.le_refl _) (Nat.le_refl _) d_Mo_know_115 (fun v h1 hp => ?_)
                    obtain ⟨r1, kw1, ky1, q1, q2, q3, q4, q5, q6, rfl, rfl⟩ := hp
                    have hA2 := Agg_add (vd := u) (kw1 := kw1) (ky1 := ky1) hn hA (by rw [hwc]; omega) (fun i hi => dgt_cod (fun j hj => (hu j hj).1) hi) q1 (by rw [hwc]; exact q2) (by rw [hwc]; exact q3) q4 (by rw [hwc]; exact q5) (fun p hp => (q6 p hp).trans (hv p hp))
                    rw [hwc] at hA2
                    revert hA2
                    generalize ((mc1.1, mc1.2.1 + wac ms mp u mp.1, mc1.2.2.1 + 1, adS u (wac ms mp u mp.1) mp.1 mc1.2.2.2.1, adB u (wac ms mp u mp.1) mp.1 mc1.2.2.2.2.1, adP u mp.1 (wac ms mp u mp.1) mp.1 mc1.2.2.2.2.2.1, (if mc1.2.2.2.2.2.2.1 < 10 then mc1.2.2.2.2.2.2.1 + 1 else 10), kw1, ky1) : hC) = mc1
                    intro hA2
                    refine a_aload_n X 0 d_Mo_know_118 rfl rfl ?_
                    refine a_iconst X (v := nI 0) d_Mo_know_119 (by decide) ?_
                    refine a_callV X (a := 203) (As := [.int (nI 0)]) mq_203 rfl fb_Mo_next lk_Mo_123 im_Mo_next se_Mo_next (c_Mo_nxt_n hn0 hn hq hu hv) rfl rfl (Nat.le_of_ble_eq_true rfl) (by decide) (by decide) (Nat.le_refl _) (Nat.le_refl _) d_Mo_know_120 (fun v h1 hp => ?_)
                    obtain ⟨mw2, hp, rfl⟩ := hp
                    rcases hp with ⟨u2, hu2, hv2, hge, hgap, rfl⟩ | ⟨hgap, rfl⟩
                    ·
                      refine a_istore_n X 1 d_Mo_know_123 rfl (by decide) ?_
                      refine a_goto X 98 d_Mo_know_124 (by decide) ?_
                      refine ab_sub [(0, .ref 204), (1, .int (nI 1))] rfl ?_
                      have hcl2 := cod_lt (v := u2) (p := mp.1) (fun i hi => (hu2 i hi).1)
                      exact ih u2 mw2 mc1 hu2 hv2 (Agg_to hA2 hge (fun c h1 h2 => wtc_gap (by omega) hgap h1 h2)) (by omega)
                    ·
                      refine a_istore_n X 1 d_Mo_know_123 rfl (by decide) ?_
                      refine a_goto X 98 d_Mo_know_124 (by decide) ?_
                      exact ab_sub _ rfl (hE mw2 mc1 (by rw [if_neg (by omega)]; exact Agg_to hA2 (by omega) (fun c h1 h2 => wtc_gapE h2 hgap h1)))
            refine a_aload_n X 0 d_Mo_know_77 rfl rfl ?_
            refine a_get X ff_Mo_82 d_Mo_know_78 mq_203 rfl ?_
            refine a_if_leN X 96 (by omega) d_Mo_know_81 (by decide) (fun c81 => ?_) (fun c81 => ?_)
            ·
              exact a_iconst X (v := nI 0) d_Mo_know_96 (by decide) (a_istore_n X 1 d_Mo_know_97 rfl (by decide) (ab_sub _ rfl (hE mw mc0 (by rw [if_pos c81]; exact hA0))))
            ·
              refine a_aload_n X 0 d_Mo_know_84 rfl rfl ?_
              refine a_iconst X (v := nI 1) d_Mo_know_85 (by decide) ?_
              refine a_callV X (a := 203) (As := [.int (nI 1)]) mq_203 rfl fb_Mo_next lk_Mo_123 im_Mo_next se_Mo_next (c_Mo_nxt_f c81 hn hq) rfl rfl (Nat.le_of_ble_eq_true rfl) (by decide) (by decide) (Nat.le_refl _) (Nat.le_refl _) d_Mo_know_86 (fun v h1 hp => ?_)
              obtain ⟨mw1, hp, rfl⟩ := hp
              rcases hp with ⟨u, hu, hv, -, hgap, rfl⟩ | ⟨hgap, rfl⟩
              ·
                refine a_if_eqN X 96 (by omega) d_Mo_know_89 (by decide) (fun c89 => ?_) (fun c89 => ?_)
                ·
                  exact absurd c89 (by omega)
                ·
                  refine a_iconst X (v := nI 1) d_Mo_know_92 (by decide) ?_
                  refine a_goto X 97 d_Mo_know_93 (by decide) ?_
                  refine a_istore_n X 1 d_Mo_know_97 rfl (by decide) ?_
                  refine ab_sub [(0, .ref 204), (1, .int (nI 1))] rfl ?_
                  exact hL c81 _ u mw1 mc0 hu hv (Agg_to hA0 (Nat.zero_le _) (fun c h1 h2 => wtc_gap (Nat.lt_trans h2 (cod_lt (fun i hi => (hu i hi).1))) hgap h1 h2)) (Nat.lt_succ_self _)
              ·
                refine a_if_eqN X 96 (by omega) d_Mo_know_89 (by decide) (fun c89 => ?_) (fun c89 => ?_)
                ·
                  refine a_iconst X (v := nI 0) d_Mo_know_96 (by decide) ?_
                  refine a_istore_n X 1 d_Mo_know_97 rfl (by decide) ?_
                  exact ab_sub _ rfl (hE mw1 mc0 (by rw [if_neg (by omega)]; exact Agg_to hA0 (Nat.zero_le _) (fun c h1 h2 => wtc_gapE h2 hgap h1)))
                ·
                  exact absurd c89 (by omega)
          ·
            refine a_aload_n X 0 d_Mo_know_64 rfl rfl ?_
            refine a_get X ff_Mo_38 d_Mo_know_65 mq_203 rfl ?_
            refine a_iload_n X 1 d_Mo_know_68 rfl rfl ?_
            refine a_lconst X (v := lN 0) d_Mo_know_69 (by decide) ?_
            refine a_last X d_Mo_know_70 mq_213 rfl (ab_ix_nI (by omega) (by decide)) ?_
            refine ab_hp ma_pairs ?_
            refine a_incN X d_Mo_know_71 rfl (by decide) ?_
            refine a_goto X 58 d_Mo_know_74 (by decide) ?_
            refine ab_sub [(0, .ref 204), (1, .int (nI (i + 1)))] rfl ?_
            refine ab_hp (show _ = hc r s w c b d k t ++ hm ms mk mp mw (1, 0, 0, zr 24 mc.2.2.2.1, zr 24 mc.2.2.2.2.1, zr (i + 1) mc.2.2.2.2.2.1, 0, mc.2.2.2.2.2.2.2) md mt me by rw [← zr_succ i]) ?_
            exact ih (i + 1) (by omega) (by omega)
      ·
        refine a_aload_n X 0 d_Mo_know_36 rfl rfl ?_
        refine a_get X ff_Mo_31 d_Mo_know_37 mq_203 rfl ?_
        refine a_iload_n X 1 d_Mo_know_40 rfl rfl ?_
        refine a_lconst X (v := lN 0) d_Mo_know_41 (by decide) ?_
        refine a_last X d_Mo_know_42 mq_211 rfl (ab_ix_nI (by omega) (by decide)) ?_
        refine ab_hp ma_shares ?_
        refine a_aload_n X 0 d_Mo_know_43 rfl rfl ?_
        refine a_get X ff_Mo_35 d_Mo_know_44 mq_203 rfl ?_
        refine a_iload_n X 1 d_Mo_know_47 rfl rfl ?_
        refine a_lconst X (v := lN 0) d_Mo_know_48 (by decide) ?_
        refine a_last X d_Mo_know_49 mq_212 rfl (ab_ix_nI (by omega) (by decide)) ?_
        refine ab_hp ma_begins ?_
        refine a_incN X d_Mo_know_50 rfl (by decide) ?_
        refine a_goto X 30 d_Mo_know_53 (by decide) ?_
        refine ab_sub [(0, .ref 204), (1, .int (nI (i + 1)))] rfl ?_
        refine ab_hp (show _ = hc r s w c b d k t ++ hm ms mk mp mw (1, 0, 0, zr (i + 1) mc.2.2.2.1, zr (i + 1) mc.2.2.2.2.1, zr 0 mc.2.2.2.2.2.1, 0, mc.2.2.2.2.2.2.2) md mt me by rw [← zr_succ, ← zr_succ]) ?_
        exact ih (i + 1) (by omega) (by omega)
  ·
    exfalso
    omega
