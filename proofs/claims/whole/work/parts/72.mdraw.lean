def usR (x : Int32) : Nat := x.toBitVec.toNat / 2
theorem usR_lt (x : Int32) : usR x < 2 ^ 31 := by
  have := x.toBitVec.isLt
  unfold usR
  omega
theorem us_eq (x : Int32) : (x.toUInt32 >>> ((nI 1).toUInt32 &&& Int32.toUInt32 31)).toInt32 = nI (usR x) := Int32.toBitVec_inj.mp (BitVec.eq_of_toNat_eq (by
  have h := x.toBitVec.isLt
  rw [pk_ushr x (nI 1) 1 (by decide), pk_tn (by unfold usR; omega)]
  rfl))
def drN (x : Int32) : Nat := 2147483648 * usR (x * 1664525 + 1013904223) + usR ((x * 1664525 + 1013904223) * 1664525 + 1013904223)
theorem drN_lt (x : Int32) : drN x < 2 ^ 63 := by
  have h1 := usR_lt (x * 1664525 + 1013904223)
  have h2 := usR_lt ((x * 1664525 + 1013904223) * 1664525 + 1013904223)
  unfold drN
  omega
theorem sumR_ext {g : Nat → Nat} {a b : Nat} (hab : a ≤ b) (h : ∀ c, a ≤ c → c < b → g c = 0) : sumR g 0 b = sumR g 0 a := by
  obtain ⟨k, rfl⟩ : ∃ k, b = a + k := ⟨b - a, by omega⟩
  clear hab
  induction k with
  | zero => rfl
  | succ k ih =>
    rw [← Nat.add_assoc, sumR_s, h (a + k) (by omega) (by omega), ih (fun c h1 h2 => h c h1 (by omega))]
    rfl
set_option maxHeartbeats 4000000 in
set_option maxRecDepth 20000 in
theorem c_Mo_drawn {E : ab_E} {l : Launch} {r : hR} {s : hS} {w c : hW} {b : hB} {d : hD} {k : hK} {t : hT} {ms mk : hA} {mp : hP} {mw : Nat → Int32} {mc : hC} {md : Nat × (Nat → Int32)} {mt : hF} {me : hE} {x : Int32} (hM : okM ms mp) (hk : mc.1 = 0 ∨ mc.1 = 1 ∧ knM ms mp mc) (hT : sumR (wtc ms mp) 0 (FB mp.1) < 2 ^ 63) : ab_Con E l y_Mo_drawn b_Mo_drawn 11 (some .long) 4 91 [.ref 204, .int x] (hc r s w c b d k t ++ hm ms mk mp mw mc md mt me) 0 0 (fun v h1 => ∃ (mw1 : Nat → Int32) (mc1 : hC), knM ms mp mc1 ∧ (mc.1 = 1 → mc1 = mc) ∧ ((mc1.2.1 = 0 ∧ v = some (.long (-3)) ∧ h1 = hc r s w c b d k t ++ hm ms mk mp mw1 mc1 md mt me) ∨ (mc1.2.1 ≠ 0 ∧ ∃ c1, c1 < 8 ^ mp.1 ∧ sumR (wtc ms mp) 0 c1 ≤ (drN x % mc1.2.1) ∧ (drN x % mc1.2.1) < sumR (wtc ms mp) 0 (c1 + 1) ∧ v = some (.long (lN ((wtc ms mp) c1))) ∧ ∃ f : Nat → Int32, (∀ p, p < mp.1 → f p = nI (dgt mp.1 c1 p)) ∧ h1 = hc r s w c b d k t ++ hm ms mk mp mw1 mc1 (1, f) mt me))) := by
  refine ab_con (own := "HiddenRowsModel") (ini := false) (by decide) (fun h => by cases h) rfl (Nat.le_of_ble_eq_true rfl) ?_
  intro G m X
  show ab_R E G m 11 0 0 0 [(0, .ref 204), (1, .int x)] [] (hc r s w c b d k t ++ hm ms mk mp mw mc md mt me)
  refine a_aload_n X 0 d_Mo_drawn_0 rfl rfl ?_
  refine a_callV X (a := 203) (As := []) mq_203 rfl fb_Mo_know lk_Mo_138 im_Mo_know se_Mo_know (c_Mo_kno hM hk) rfl rfl (Nat.le_of_ble_eq_true rfl) (by decide) (by decide) (Nat.le_refl _) (Nat.le_refl _) d_Mo_drawn_1 (fun v h1 hp => ?_)
  obtain ⟨mw1, mc1, hA, hsm, rfl, rfl⟩ := hp
  have hT1 : mc1.2.1 < 2 ^ 63 := by rw [hA.2.1]; exact hT
  have hnp : mc1.2.1 ≠ 0 → 0 < mp.1 := fun q => by
    rcases Nat.eq_zero_or_pos mp.1 with e | e
    · exact absurd (by rw [hA.2.1]; unfold FB; rw [if_pos e]; rfl) q
    · exact e
  refine a_aload_n X 0 d_Mo_drawn_4 rfl rfl ?_
  refine a_get X ff_Mo_116 d_Mo_drawn_5 mq_203 rfl ?_
  refine a_lconst X (v := lN 0) d_Mo_drawn_8 (by decide) ?_
  refine a_lc_ne X 17 hT1 (by omega) d_Mo_drawn_9 d_Mo_drawn_10 (by decide) (fun c9 => ?_) (fun c9 => ?_)
  ·
    have hn0 := hnp c9
    have hFB : FB mp.1 = 8 ^ mp.1 := if_neg (by omega)
    have htot : mc1.2.1 = sumR (wtc ms mp) 0 (8 ^ mp.1) := by rw [hA.2.1, hFB]
    have hR : drN x % mc1.2.1 < mc1.2.1 := Nat.mod_lt _ (by omega)
    refine a_iload_n X 1 d_Mo_drawn_17 rfl rfl ?_
    refine a_ldc X kc_Mo_155 d_Mo_drawn_18 ?_
    refine a_imul X d_Mo_drawn_20 ?_
    refine a_ldc X kc_Mo_156 d_Mo_drawn_21 ?_
    refine a_iadd X d_Mo_drawn_23 ?_
    refine a_istore_n X 2 d_Mo_drawn_24 rfl (by decide) ?_
    refine a_iload_n X 2 d_Mo_drawn_25 rfl rfl ?_
    refine a_iconst X (v := nI 1) d_Mo_drawn_26 (by decide) ?_
    refine a_iushr X d_Mo_drawn_27 ?_
    refine ab_topi (us_eq _) ?_
    refine a_i2l X d_Mo_drawn_28 ?_
    refine ab_topl (nI_l (usR_lt _)) ?_
    refine a_lstore_n X 3 d_Mo_drawn_29 rfl (by decide) ?_
    refine a_iload_n X 2 d_Mo_drawn_30 rfl rfl ?_
    refine a_ldc X kc_Mo_155 d_Mo_drawn_31 ?_
    refine a_imul X d_Mo_drawn_33 ?_
    refine a_ldc X kc_Mo_156 d_Mo_drawn_34 ?_
    refine a_iadd X d_Mo_drawn_36 ?_
    refine a_istore_n X 2 d_Mo_drawn_37 rfl (by decide) ?_
    refine a_ldc2 X kc_Mo_157 d_Mo_drawn_38 ?_
    refine a_lload_n X 3 d_Mo_drawn_41 rfl rfl ?_
    refine a_lmul X d_Mo_drawn_42 ?_
    refine ab_topl (lN_mul 2147483648 _) ?_
    refine a_iload_n X 2 d_Mo_drawn_43 rfl rfl ?_
    refine a_iconst X (v := nI 1) d_Mo_drawn_44 (by decide) ?_
    refine a_iushr X d_Mo_drawn_45 ?_
    refine ab_topi (us_eq _) ?_
    refine a_i2l X d_Mo_drawn_46 ?_
    refine ab_topl (nI_l (usR_lt _)) ?_
    refine a_ladd X d_Mo_drawn_47 ?_
    refine ab_topl (lN_add _ _) ?_
    refine a_aload_n X 0 d_Mo_drawn_48 rfl rfl ?_
    refine a_get X ff_Mo_116 d_Mo_drawn_49 mq_203 rfl ?_
    refine a_lrem X d_Mo_drawn_52 (fun q => c9 ((pk_lEQ hT1 (by omega)).mp q)) ?_
    refine ab_topl (pk_lRem (a := drN x) (drN_lt x) (by omega) hT1) ?_
    refine a_lstore X d_Mo_drawn_53 (by decide) ?_
    refine a_aload_n X 0 d_Mo_drawn_55 rfl rfl ?_
    refine a_iconst X (v := nI 1) d_Mo_drawn_56 (by decide) ?_
    refine a_callV X (a := 203) (As := [.int (nI 1)]) mq_203 rfl fb_Mo_next lk_Mo_123 im_Mo_next se_Mo_next (c_Mo_nxt_f hn0 hM.1 hM.2.1) rfl rfl (Nat.le_of_ble_eq_true rfl) (by decide) (by decide) (Nat.le_refl _) (Nat.le_refl _) d_Mo_drawn_57 (fun v h1 hp => ?_)
    obtain ⟨mw2, hp, rfl⟩ := hp
    rcases hp with ⟨u, hu, hv, -, hgap, rfl⟩ | ⟨hgap, rfl⟩
    ·
      refine a_istore X d_Mo_drawn_60 (by decide) ?_
      refine a_aload_n X 0 d_Mo_drawn_62 rfl rfl ?_
      refine a_callV X (a := 203) (As := []) mq_203 rfl fb_Mo_weightOf lk_Mo_127 im_Mo_weightOf se_Mo_weightOf (c_Mo_wof (vd := u) hn0 hM.1 hM.2.2.1 hM.2.2.2.1 hM.2.2.2.2 (fun i hi => ⟨hv i hi, (hu i hi).1⟩)) rfl rfl (Nat.le_of_ble_eq_true rfl) (by decide) (by decide) (Nat.le_refl _) (Nat.le_refl _) d_Mo_drawn_63 (fun v h1 hp => ?_)
      obtain ⟨rfl, rfl⟩ := hp
      refine a_lstore X d_Mo_drawn_66 (by decide) ?_
      refine ab_sub [(0, .ref 204), (5, .long (lN (drN x % mc1.2.1))), (7, .int (nI 1)), (8, .long (lN (wac ms mp u mp.1)))] rfl ?_
      have hs0 : sumR (wtc ms mp) 0 (cod u mp.1) = 0 := sumR_ext (Nat.zero_le _) (fun c h1 h2 => wtc_gap (Nat.lt_trans h2 (cod_lt (fun i hi => (hu i hi).1))) hgap h1 h2)
      suffices LP : ∀ (mm : Nat) (u : Nat → Nat) (mw2 : Nat → Int32) (rm : Nat), okV ms.1 mp.1 u → (∀ i, i < mp.1 → mw2 i = nI (u i)) → sumR (wtc ms mp) 0 (cod u mp.1) + rm = (drN x % mc1.2.1) → 8 ^ mp.1 - cod u mp.1 < mm → ab_R E G m 11 0 0 68 [(0, .ref 204), (5, .long (lN rm)), (7, .int (nI 1)), (8, .long (lN (wac ms mp u mp.1)))] [] (hc r s w c b d k t ++ hm ms mk mp mw2 mc1 md mt me) from LP _ u mw2 (drN x % mc1.2.1) hu hv (by rw [hs0, Nat.zero_add]) (Nat.lt_succ_self _)
      clear hgap hs0 hu hv u mw2
      intro mm
      induction mm with
      | zero => intro u mw2 rm h1 h2 h3 h4; exfalso; omega
      | succ mm ih =>
        intro u mw2 rm hu hv hrm hmu
        have hcl := cod_lt (v := u) (p := mp.1) (fun i hi => (hu i hi).1)
        have hwc := wtc_cod (ms := ms) hn0 hu
        have hwl := wtc_lt hM.1 hM.2.2.1 hM.2.2.2.1 (cod u mp.1)
        rw [hwc] at hwl
        have hs1 : sumR (wtc ms mp) 0 (cod u mp.1 + 1) = sumR (wtc ms mp) 0 (cod u mp.1) + wac ms mp u mp.1 := by rw [sumR_s, hwc]
        refine a_iload X d_Mo_drawn_68 rfl ?_
        refine a_if_eqN X 104 (by omega) d_Mo_drawn_70 (by decide) (fun c70 => ?_) (fun c70 => ?_)
        ·
          exact absurd c70 (by omega)
        ·
          refine a_lload X d_Mo_drawn_73 rfl ?_
          refine a_lload X d_Mo_drawn_75 rfl ?_
          refine a_lc_gt X 104 hwl (by omega) d_Mo_drawn_77 d_Mo_drawn_78 (by decide) (fun c77 => ?_) (fun c77 => ?_)
          ·
            refine a_iconst X (v := nI 0) d_Mo_drawn_104 (by decide) ?_
            refine a_istore X d_Mo_drawn_105 (by decide) ?_
            refine ab_sub [(0, .ref 204), (8, .long (lN (wac ms mp u mp.1))), (10, .int (nI 0))] rfl ?_
            suffices LQ : ∀ (m2 i : Nat) (f : Nat → Int32), i ≤ mp.1 → mp.1 - i < m2 → (∀ p, p < i → f p = mw2 p) → ab_R E G m 11 0 0 107 [(0, .ref 204), (8, .long (lN (wac ms mp u mp.1))), (10, .int (nI i))] [] (hc r s w c b d k t ++ hm ms mk mp mw2 mc1 (md.1, f) mt me) from LQ (mp.1 + 1) 0 md.2 (by omega) (by omega) (fun p hp => absurd hp (by omega))
            intro m2
            induction m2 with
            | zero => intro i f h1 h2 h3; exfalso; omega
            | succ m2 ih2 =>
              intro i f h1 h2 h3
              have hn6 := hM.1
              refine a_iload X d_Mo_drawn_107 rfl ?_
              refine a_aload_n X 0 d_Mo_drawn_109 rfl rfl ?_
              refine a_get X ff_Mo_82 d_Mo_drawn_110 mq_203 rfl ?_
              refine a_icmp_geN X 136 (by omega) (by omega) d_Mo_drawn_113 (by decide) (fun c113 => ?_) (fun c113 => ?_)
              ·
                obtain rfl : i = mp.1 := by omega
                refine a_aload_n X 0 d_Mo_drawn_136 rfl rfl ?_
                refine a_iconst X (v := nI 1) d_Mo_drawn_137 (by decide) ?_
                refine a_put X ff_Mo_72 d_Mo_drawn_138 mq_203 (Nat.le_of_ble_eq_true rfl) rfl rfl ?_
                refine ab_hp mo_set ?_
                refine a_lload X d_Mo_drawn_141 rfl ?_
                exact a_lret X d_Mo_drawn_143 (Nat.le_refl _) (Nat.le_refl _) ⟨mw2, mc1, hA, hsm, Or.inr ⟨c9, cod u mp.1, hcl, by omega, by omega, by rw [hwc], f, fun p hp => by rw [h3 p hp, hv p hp, dgt_cod (fun j hj => (hu j hj).1) hp], rfl⟩⟩
              ·
                refine a_aload_n X 0 d_Mo_drawn_116 rfl rfl ?_
                refine a_get X ff_Mo_47 d_Mo_drawn_117 mq_203 rfl ?_
                refine a_iload X d_Mo_drawn_120 rfl ?_
                refine a_aload_n X 0 d_Mo_drawn_122 rfl rfl ?_
                refine a_get X ff_Mo_28 d_Mo_drawn_123 mq_203 rfl ?_
                refine a_iload X d_Mo_drawn_126 rfl ?_
                refine a_iald X d_Mo_drawn_128 mq_210 rfl (ab_ix_nI (by omega) (by decide)) ?_
                refine a_iast X d_Mo_drawn_129 mq_216 rfl (ab_ix_nI (by omega) (by decide)) ?_
                refine ab_hp ma_drawn ?_
                refine a_incN X d_Mo_drawn_130 rfl (by decide) ?_
                refine a_goto X 107 d_Mo_drawn_133 (by decide) ?_
                refine ab_sub [(0, .ref 204), (8, .long (lN (wac ms mp u mp.1))), (10, .int (nI (i + 1)))] rfl ?_
                exact ih2 (i + 1) (upd f i (mw2 i)) (by omega) (by omega) (fun p hp => by
                  by_cases e : p = i
                  · rw [e, pk_us]
                  · rw [pk_un e]; exact h3 p (by omega))
          ·
            refine a_lload X d_Mo_drawn_81 rfl ?_
            refine a_lload X d_Mo_drawn_83 rfl ?_
            refine a_lsub X d_Mo_drawn_85 ?_
            refine ab_topl (lN_sub c77) ?_
            refine a_lstore X d_Mo_drawn_86 (by decide) ?_
            refine a_aload_n X 0 d_Mo_drawn_88 rfl rfl ?_
            refine a_iconst X (v := nI 0) d_Mo_drawn_89 (by decide) ?_
            refine a_callV X (a := 203) (As := [.int (nI 0)]) mq_203 rfl fb_Mo_next lk_Mo_123 im_Mo_next se_Mo_next (c_Mo_nxt_n hn0 hM.1 hM.2.1 hu hv) rfl rfl (Nat.le_of_ble_eq_true rfl) (by decide) (by decide) (Nat.le_refl _) (Nat.le_refl _) d_Mo_drawn_90 (fun v h1 hp => ?_)
            obtain ⟨mw3, hp, rfl⟩ := hp
            rcases hp with ⟨u2, hu2, hv2, hge, hgap, rfl⟩ | ⟨hgap, rfl⟩
            ·
              refine a_istore X d_Mo_drawn_93 (by decide) ?_
              refine a_aload_n X 0 d_Mo_drawn_95 rfl rfl ?_
              refine a_callV X (a := 203) (As := []) mq_203 rfl fb_Mo_weightOf lk_Mo_127 im_Mo_weightOf se_Mo_weightOf (c_Mo_wof (vd := u2) hn0 hM.1 hM.2.2.1 hM.2.2.2.1 hM.2.2.2.2 (fun i hi => ⟨hv2 i hi, (hu2 i hi).1⟩)) rfl rfl (Nat.le_of_ble_eq_true rfl) (by decide) (by decide) (Nat.le_refl _) (Nat.le_refl _) d_Mo_drawn_96 (fun v h1 hp => ?_)
              obtain ⟨rfl, rfl⟩ := hp
              refine a_lstore X d_Mo_drawn_99 (by decide) ?_
              refine a_goto X 68 d_Mo_drawn_101 (by decide) ?_
              refine ab_sub [(0, .ref 204), (5, .long (lN (rm - wac ms mp u mp.1))), (7, .int (nI 1)), (8, .long (lN (wac ms mp u2 mp.1)))] rfl ?_
              have hcl2 := cod_lt (v := u2) (p := mp.1) (fun i hi => (hu2 i hi).1)
              have e := sumR_ext (g := (wtc ms mp)) hge (fun c h1 h2 => wtc_gap (by omega) hgap h1 h2)
              exact ih u2 mw3 (rm - wac ms mp u mp.1) hu2 hv2 (by omega) (by omega)
            · have e := sumR_ext (g := (wtc ms mp)) (a := cod u mp.1 + 1) (b := 8 ^ mp.1) (by omega) (fun c h1 h2 => wtc_gapE h2 hgap h1)
              exact absurd hR (by omega)
    · exact absurd (htot.trans (sumR_ext (Nat.zero_le _) (fun c h1 h2 => wtc_gapE h2 hgap h1))) c9
  ·
    refine a_ldc2 X kc_Mo_149 d_Mo_drawn_13 ?_
    exact a_lret X d_Mo_drawn_16 (Nat.le_refl _) (Nat.le_refl _) ⟨mw1, mc1, hA, hsm, Or.inl ⟨c9, rfl, rfl⟩⟩
