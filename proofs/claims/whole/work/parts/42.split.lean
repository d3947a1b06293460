set_option maxHeartbeats 4000000 in
set_option maxRecDepth 20000 in
theorem c_spl {E : ab_E} {l : Launch} {r : hR} {s : hS} {w c : hW} {b : hB} {d : hD} {k : hK} {t : hT} {Z : List ab_C} {kd sp l1 l2 : Nat} (hkq : k.2.2 ≤ 4) (hkd : kd < 4) (hsp : sp < 36) (h1 : l1 < 36) (h2 : l2 < 36) (hl1 : l1 ≠ sp) (hl2 : l2 ≠ sp) (hru : ∀ i j, k.1 i j ≤ 4) (hb0 : t.2.2.1 kd sp < 2 ^ 63) (hbb : ∀ i j, i < k.2.2 → j < k.2.2 → tS k.1 t.2.2.1 kd l1 l2 i j < 2 ^ 63) : ab_Con E l y_Tt_addSplit b_Tt_addSplit 9 none 1 23 [.ref 181, .int (nI kd), .int (nI sp), .int (nI l1), .int (nI l2)] (hc r s w c b d k t ++ Z) 0 0 (fun v h1 => v = none ∧ h1 = hc r s w c b d k (up2 t.1 kd sp (t.1 kd sp + sum2 (tS k.1 t.1 kd l1 l2) k.2.2), up2 t.2.1 kd sp (t.2.1 kd sp + sum2 (tC k.1 t.2.1 kd l1 l2) k.2.2), up2 t.2.2.1 kd sp (max2 (tS k.1 t.2.2.1 kd l1 l2) (t.2.2.1 kd sp) k.2.2 k.2.2), t.2.2.2) ++ Z) := by
  refine ab_con (own := "HiddenRows$TreeTables") (ini := false) (by decide) (fun h => by cases h) rfl (Nat.le_of_ble_eq_true rfl) ?_
  intro G m X
  show ab_R E G m 9 0 0 0 [(0, .ref 181), (1, .int (nI kd)), (2, .int (nI sp)), (3, .int (nI l1)), (4, .int (nI l2))] [] (hc r s w c b d k t ++ Z)
  refine a_iconst X (v := nI 0) d_Tt_addSplit_0 (by decide) ?_
  refine a_istore X d_Tt_addSplit_1 (by decide) ?_
  refine ab_sub [(0, .ref 181), (1, .int (nI kd)), (2, .int (nI sp)), (3, .int (nI l1)), (4, .int (nI l2)), (5, .int (nI 0))] rfl ?_
  refine ab_hp (show _ = hc r s w c b d k (up2 t.1 kd sp (t.1 kd sp + sumR (fun b => sumR (tS k.1 t.1 kd l1 l2 b) 0 k.2.2) 0 0), up2 t.2.1 kd sp (t.2.1 kd sp + sumR (fun b => sumR (tC k.1 t.2.1 kd l1 l2 b) 0 k.2.2) 0 0), up2 t.2.2.1 kd sp (max2 (tS k.1 t.2.2.1 kd l1 l2) (t.2.2.1 kd sp) k.2.2 0), t.2.2.2) ++ Z from by
    show _ = hc r s w c b d k (up2 t.1 kd sp (t.1 kd sp + 0), up2 t.2.1 kd sp (t.2.1 kd sp + 0), up2 t.2.2.1 kd sp (t.2.2.1 kd sp), t.2.2.2) ++ Z
    rw [Nat.add_zero, Nat.add_zero, up2_eta, up2_eta, up2_eta]) ?_
  suffices LP : ∀ (mm i : Nat), i ≤ k.2.2 → k.2.2 - i < mm → ab_R E G m 9 0 0 3 [(0, .ref 181), (1, .int (nI kd)), (2, .int (nI sp)), (3, .int (nI l1)), (4, .int (nI l2)), (5, .int (nI i))] [] (hc r s w c b d k (up2 t.1 kd sp (t.1 kd sp + sumR (fun b => sumR (tS k.1 t.1 kd l1 l2 b) 0 k.2.2) 0 i), up2 t.2.1 kd sp (t.2.1 kd sp + sumR (fun b => sumR (tC k.1 t.2.1 kd l1 l2 b) 0 k.2.2) 0 i), up2 t.2.2.1 kd sp (max2 (tS k.1 t.2.2.1 kd l1 l2) (t.2.2.1 kd sp) k.2.2 i), t.2.2.2) ++ Z) from LP (k.2.2 + 1) 0 (by omega) (by omega)
  intro mm
  induction mm with
  | zero => intro i h1 h2; exfalso; omega
  | succ mm ih =>
    intro i h1 h2
    refine a_iload X d_Tt_addSplit_3 rfl ?_
    refine a_aload_n X 0 d_Tt_addSplit_5 rfl rfl ?_
    refine a_get X ff_Tt_44 d_Tt_addSplit_6 hq_180 rfl ?_
    refine a_get X ff_Tt_60 d_Tt_addSplit_9 hq_169 rfl ?_
    refine a_icmp_geN X 176 (by omega) (by omega) d_Tt_addSplit_12 (by decide) (fun c12 => ?_) (fun c12 => ?_)
    ·
      exact a_vret X d_Tt_addSplit_176 (Nat.le_refl _) (Nat.le_refl _) ⟨rfl, by rw [show i = k.2.2 by omega]; rfl⟩
    ·
      refine a_iconst X (v := nI 0) d_Tt_addSplit_15 (by decide) ?_
      refine a_istore X d_Tt_addSplit_16 (by decide) ?_
      refine ab_sub [(0, .ref 181), (1, .int (nI kd)), (2, .int (nI sp)), (3, .int (nI l1)), (4, .int (nI l2)), (5, .int (nI i)), (6, .int (nI 0))] rfl ?_
      suffices LP2 : ∀ (m2 j : Nat), j ≤ k.2.2 → k.2.2 - j < m2 → ab_R E G m 9 0 0 18 [(0, .ref 181), (1, .int (nI kd)), (2, .int (nI sp)), (3, .int (nI l1)), (4, .int (nI l2)), (5, .int (nI i)), (6, .int (nI j))] [] (hc r s w c b d k (up2 t.1 kd sp (t.1 kd sp + (sumR (fun b => sumR (tS k.1 t.1 kd l1 l2 b) 0 k.2.2) 0 i + sumR (tS k.1 t.1 kd l1 l2 i) 0 j)), up2 t.2.1 kd sp (t.2.1 kd sp + (sumR (fun b => sumR (tC k.1 t.2.1 kd l1 l2 b) 0 k.2.2) 0 i + sumR (tC k.1 t.2.1 kd l1 l2 i) 0 j)), up2 t.2.2.1 kd sp (maxR (tS k.1 t.2.2.1 kd l1 l2 i) (max2 (tS k.1 t.2.2.1 kd l1 l2) (t.2.2.1 kd sp) k.2.2 i) 0 j), t.2.2.2) ++ Z) from LP2 (k.2.2 + 1) 0 (by omega) (by omega)
      intro m2
      induction m2 with
      | zero => intro j h3 h4; exfalso; omega
      | succ m2 ih2 =>
        intro j h3 h4
        refine a_iload X d_Tt_addSplit_18 rfl ?_
        refine a_aload_n X 0 d_Tt_addSplit_20 rfl rfl ?_
        refine a_get X ff_Tt_44 d_Tt_addSplit_21 hq_180 rfl ?_
        refine a_get X ff_Tt_60 d_Tt_addSplit_24 hq_169 rfl ?_
        refine a_icmp_geN X 170 (by omega) (by omega) d_Tt_addSplit_27 (by decide) (fun c27 => ?_) (fun c27 => ?_)
        ·
          refine a_incN X d_Tt_addSplit_170 rfl (by decide) ?_
          refine a_goto X 3 d_Tt_addSplit_173 (by decide) ?_
          refine ab_sub [(0, .ref 181), (1, .int (nI kd)), (2, .int (nI sp)), (3, .int (nI l1)), (4, .int (nI l2)), (5, .int (nI (i + 1)))] rfl ?_
          refine ab_hp (show _ = hc r s w c b d k (up2 t.1 kd sp (t.1 kd sp + sumR (fun b => sumR (tS k.1 t.1 kd l1 l2 b) 0 k.2.2) 0 (i + 1)), up2 t.2.1 kd sp (t.2.1 kd sp + sumR (fun b => sumR (tC k.1 t.2.1 kd l1 l2 b) 0 k.2.2) 0 (i + 1)), up2 t.2.2.1 kd sp (max2 (tS k.1 t.2.2.1 kd l1 l2) (t.2.2.1 kd sp) k.2.2 (i + 1)), t.2.2.2) ++ Z from by
            rw [show j = k.2.2 by omega]
            show _ = hc r s w c b d k (up2 t.1 kd sp (t.1 kd sp + (_ + sumR (tS k.1 t.1 kd l1 l2 (0 + i)) 0 k.2.2)), up2 t.2.1 kd sp (t.2.1 kd sp + (_ + sumR (tC k.1 t.2.1 kd l1 l2 (0 + i)) 0 k.2.2)), up2 t.2.2.1 kd sp (maxR (tS k.1 t.2.2.1 kd l1 l2 i) _ 0 k.2.2), t.2.2.2) ++ Z
            rw [Nat.zero_add]) ?_
          exact ih (i + 1) (by omega) (by omega)
        ·
          refine a_aload_n X 0 d_Tt_addSplit_30 rfl rfl ?_
          refine a_get X ff_Tt_44 d_Tt_addSplit_31 hq_180 rfl ?_
          refine a_get X ff_Tt_84 d_Tt_addSplit_34 hq_169 rfl ?_
          refine a_iload_n X 1 d_Tt_addSplit_37 rfl rfl ?_
          refine a_aald X d_Tt_addSplit_38 hq_170 rfl rfl (ab_ix_nI (by omega) (by decide)) (hg_ru (by omega)) ?_
          refine a_iload X d_Tt_addSplit_39 rfl ?_
          refine a_iload X d_Tt_addSplit_41 rfl ?_
          refine a_callS X (As := [.int (nI _), .int (nI _)]) fb_Ki_parts lk_Tt_88 sm_Ki_parts (c_Ki_parts) rfl rfl (Nat.le_of_ble_eq_true rfl) (by decide) (by decide) (Nat.le_refl _) (Nat.le_refl _) d_Tt_addSplit_43 (fun v h1 hp => ?_)
          obtain ⟨rfl, rfl⟩ := hp
          refine a_iald X d_Tt_addSplit_46 (hr_ru (by omega)) rfl (ab_ix_nI (by omega) (by decide)) ?_
          refine a_i2l X d_Tt_addSplit_47 ?_
          refine ab_topl (nI_l (by have := hru kd (i * 4 + j); omega)) ?_
          refine a_lstore X d_Tt_addSplit_48 (by decide) ?_
          refine a_lload X d_Tt_addSplit_50 rfl ?_
          refine a_lconst X (v := lN 0) d_Tt_addSplit_52 (by decide) ?_
          refine a_lc_le X 164 (by have := hru kd (i * 4 + j); omega) (by omega) d_Tt_addSplit_53 d_Tt_addSplit_54 (by decide) (fun c53 => ?_) (fun c53 => ?_)
          ·
            have hz : k.1 kd (i * 4 + j) = 0 := by omega
            have e1 : tS k.1 t.1 kd l1 l2 i j = 0 := by unfold tS; rw [hz, Nat.zero_mul, Nat.zero_mul]
            have e2 : tC k.1 t.2.1 kd l1 l2 i j = 0 := by unfold tC; rw [if_neg (by omega)]
            have e3 : tS k.1 t.2.2.1 kd l1 l2 i j = 0 := by unfold tS; rw [hz, Nat.zero_mul, Nat.zero_mul]
            refine ab_hp (show _ = hc r s w c b d k (up2 t.1 kd sp (t.1 kd sp + (sumR (fun b => sumR (tS k.1 t.1 kd l1 l2 b) 0 k.2.2) 0 i + sumR (tS k.1 t.1 kd l1 l2 i) 0 (j + 1))), up2 t.2.1 kd sp (t.2.1 kd sp + (sumR (fun b => sumR (tC k.1 t.2.1 kd l1 l2 b) 0 k.2.2) 0 i + sumR (tC k.1 t.2.1 kd l1 l2 i) 0 (j + 1))), up2 t.2.2.1 kd sp (maxR (tS k.1 t.2.2.1 kd l1 l2 i) (max2 (tS k.1 t.2.2.1 kd l1 l2) (t.2.2.1 kd sp) k.2.2 i) 0 (j + 1)), t.2.2.2) ++ Z from by
              show _ = hc r s w c b d k (up2 t.1 kd sp (t.1 kd sp + (_ + (sumR (tS k.1 t.1 kd l1 l2 i) 0 j + tS k.1 t.1 kd l1 l2 i (0 + j)))), up2 t.2.1 kd sp (t.2.1 kd sp + (_ + (sumR (tC k.1 t.2.1 kd l1 l2 i) 0 j + tC k.1 t.2.1 kd l1 l2 i (0 + j)))), up2 t.2.2.1 kd sp (max (maxR (tS k.1 t.2.2.1 kd l1 l2 i) _ 0 j) (tS k.1 t.2.2.1 kd l1 l2 i (0 + j))), t.2.2.2) ++ Z
              rw [Nat.zero_add, e1, e2, e3, Nat.add_zero, Nat.add_zero, Nat.max_zero]) ?_
            refine a_incN X d_Tt_addSplit_164 rfl (by decide) ?_
            refine a_goto X 18 d_Tt_addSplit_167 (by decide) ?_
            refine ab_sub [(0, .ref 181), (1, .int (nI kd)), (2, .int (nI sp)), (3, .int (nI l1)), (4, .int (nI l2)), (5, .int (nI i)), (6, .int (nI (j + 1)))] rfl ?_
            exact ih2 (j + 1) (by omega) (by omega)
          ·
            have e2 : tC k.1 t.2.1 kd l1 l2 i j = t.2.1 i l1 * t.2.1 j l2 := by unfold tC; rw [if_pos (by omega)]
            refine a_aload_n X 0 d_Tt_addSplit_57 rfl rfl ?_
            refine a_get X ff_Tt_13 d_Tt_addSplit_58 hq_180 rfl ?_
            refine a_iload_n X 1 d_Tt_addSplit_61 rfl rfl ?_
            refine a_aald X d_Tt_addSplit_62 hq_181 rfl rfl (ab_ix_nI (by omega) (by decide)) (hg_su (by omega)) ?_
            refine a_iload_n X 2 d_Tt_addSplit_63 rfl rfl ?_
            refine a_dup2 X d_Tt_addSplit_64 rfl rfl ?_
            refine a_lald X d_Tt_addSplit_65 (hr_su (by omega)) rfl (ab_ix_nI (by omega) (by decide)) ?_
            refine ab_topl (congrArg lN (up2_self _ _ _ _)) ?_
            refine a_lload X d_Tt_addSplit_66 rfl ?_
            refine a_aload_n X 0 d_Tt_addSplit_68 rfl rfl ?_
            refine a_get X ff_Tt_13 d_Tt_addSplit_69 hq_180 rfl ?_
            refine a_iload X d_Tt_addSplit_72 rfl ?_
            refine a_aald X d_Tt_addSplit_74 hq_181 rfl rfl (ab_ix_nI (by omega) (by decide)) (hg_su (by omega)) ?_
            refine a_iload_n X 3 d_Tt_addSplit_75 rfl rfl ?_
            refine a_lald X d_Tt_addSplit_76 (hr_su (by omega)) rfl (ab_ix_nI (by omega) (by decide)) ?_
            refine ab_topl (congrArg lN (up2_ne (fun q => hl1 q.2))) ?_
            refine a_lmul X d_Tt_addSplit_77 ?_
            refine ab_topl (lN_mul _ _) ?_
            refine a_aload_n X 0 d_Tt_addSplit_78 rfl rfl ?_
            refine a_get X ff_Tt_13 d_Tt_addSplit_79 hq_180 rfl ?_
            refine a_iload X d_Tt_addSplit_82 rfl ?_
            refine a_aald X d_Tt_addSplit_84 hq_181 rfl rfl (ab_ix_nI (by omega) (by decide)) (hg_su (by omega)) ?_
            refine a_iload X d_Tt_addSplit_85 rfl ?_
            refine a_lald X d_Tt_addSplit_87 (hr_su (by omega)) rfl (ab_ix_nI (by omega) (by decide)) ?_
            refine ab_topl (congrArg lN (up2_ne (fun q => hl2 q.2))) ?_
            refine a_lmul X d_Tt_addSplit_88 ?_
            refine ab_topl (lN_mul _ _) ?_
            refine a_ladd X d_Tt_addSplit_89 ?_
            refine ab_topl (lN_add _ _) ?_
            refine a_last X d_Tt_addSplit_90 (hr_su (by omega)) rfl (ab_ix_nI (by omega) (by decide)) ?_
            refine ab_hp (hw_su (by omega)) ?_
            refine a_aload_n X 0 d_Tt_addSplit_91 rfl rfl ?_
            refine a_get X ff_Tt_16 d_Tt_addSplit_92 hq_180 rfl ?_
            refine a_iload_n X 1 d_Tt_addSplit_95 rfl rfl ?_
            refine a_aald X d_Tt_addSplit_96 hq_186 rfl rfl (ab_ix_nI (by omega) (by decide)) (hg_ct (by omega)) ?_
            refine a_iload_n X 2 d_Tt_addSplit_97 rfl rfl ?_
            refine a_dup2 X d_Tt_addSplit_98 rfl rfl ?_
            refine a_lald X d_Tt_addSplit_99 (hr_ct (by omega)) rfl (ab_ix_nI (by omega) (by decide)) ?_
            refine ab_topl (congrArg lN (up2_self _ _ _ _)) ?_
            refine a_aload_n X 0 d_Tt_addSplit_100 rfl rfl ?_
            refine a_get X ff_Tt_16 d_Tt_addSplit_101 hq_180 rfl ?_
            refine a_iload X d_Tt_addSplit_104 rfl ?_
            refine a_aald X d_Tt_addSplit_106 hq_186 rfl rfl (ab_ix_nI (by omega) (by decide)) (hg_ct (by omega)) ?_
            refine a_iload_n X 3 d_Tt_addSplit_107 rfl rfl ?_
            refine a_lald X d_Tt_addSplit_108 (hr_ct (by omega)) rfl (ab_ix_nI (by omega) (by decide)) ?_
            refine ab_topl (congrArg lN (up2_ne (fun q => hl1 q.2))) ?_
            refine a_aload_n X 0 d_Tt_addSplit_109 rfl rfl ?_
            refine a_get X ff_Tt_16 d_Tt_addSplit_110 hq_180 rfl ?_
            refine a_iload X d_Tt_addSplit_113 rfl ?_
            refine a_aald X d_Tt_addSplit_115 hq_186 rfl rfl (ab_ix_nI (by omega) (by decide)) (hg_ct (by omega)) ?_
            refine a_iload X d_Tt_addSplit_116 rfl ?_
            refine a_lald X d_Tt_addSplit_118 (hr_ct (by omega)) rfl (ab_ix_nI (by omega) (by decide)) ?_
            refine ab_topl (congrArg lN (up2_ne (fun q => hl2 q.2))) ?_
            refine a_lmul X d_Tt_addSplit_119 ?_
            refine ab_topl (lN_mul _ _) ?_
            refine a_ladd X d_Tt_addSplit_120 ?_
            refine ab_topl (lN_add _ _) ?_
            refine a_last X d_Tt_addSplit_121 (hr_ct (by omega)) rfl (ab_ix_nI (by omega) (by decide)) ?_
            refine ab_hp (hw_ct (by omega)) ?_
            refine a_aload_n X 0 d_Tt_addSplit_122 rfl rfl ?_
            refine a_get X ff_Tt_19 d_Tt_addSplit_123 hq_180 rfl ?_
            refine a_iload_n X 1 d_Tt_addSplit_126 rfl rfl ?_
            refine a_aald X d_Tt_addSplit_127 hq_191 rfl rfl (ab_ix_nI (by omega) (by decide)) (hg_be (by omega)) ?_
            refine a_iload_n X 2 d_Tt_addSplit_128 rfl rfl ?_
            refine a_aload_n X 0 d_Tt_addSplit_129 rfl rfl ?_
            refine a_get X ff_Tt_19 d_Tt_addSplit_130 hq_180 rfl ?_
            refine a_iload_n X 1 d_Tt_addSplit_133 rfl rfl ?_
            refine a_aald X d_Tt_addSplit_134 hq_191 rfl rfl (ab_ix_nI (by omega) (by decide)) (hg_be (by omega)) ?_
            refine a_iload_n X 2 d_Tt_addSplit_135 rfl rfl ?_
            refine a_lald X d_Tt_addSplit_136 (hr_be (by omega)) rfl (ab_ix_nI (by omega) (by decide)) ?_
            refine ab_topl (congrArg lN (up2_self _ _ _ _)) ?_
            refine a_lload X d_Tt_addSplit_137 rfl ?_
            refine a_aload_n X 0 d_Tt_addSplit_139 rfl rfl ?_
            refine a_get X ff_Tt_19 d_Tt_addSplit_140 hq_180 rfl ?_
            refine a_iload X d_Tt_addSplit_143 rfl ?_
            refine a_aald X d_Tt_addSplit_145 hq_191 rfl rfl (ab_ix_nI (by omega) (by decide)) (hg_be (by omega)) ?_
            refine a_iload_n X 3 d_Tt_addSplit_146 rfl rfl ?_
            refine a_lald X d_Tt_addSplit_147 (hr_be (by omega)) rfl (ab_ix_nI (by omega) (by decide)) ?_
            refine ab_topl (congrArg lN (up2_ne (fun q => hl1 q.2))) ?_
            refine a_lmul X d_Tt_addSplit_148 ?_
            refine ab_topl (lN_mul _ _) ?_
            refine a_aload_n X 0 d_Tt_addSplit_149 rfl rfl ?_
            refine a_get X ff_Tt_19 d_Tt_addSplit_150 hq_180 rfl ?_
            refine a_iload X d_Tt_addSplit_153 rfl ?_
            refine a_aald X d_Tt_addSplit_155 hq_191 rfl rfl (ab_ix_nI (by omega) (by decide)) (hg_be (by omega)) ?_
            refine a_iload X d_Tt_addSplit_156 rfl ?_
            refine a_lald X d_Tt_addSplit_158 (hr_be (by omega)) rfl (ab_ix_nI (by omega) (by decide)) ?_
            refine ab_topl (congrArg lN (up2_ne (fun q => hl2 q.2))) ?_
            refine a_lmul X d_Tt_addSplit_159 ?_
            refine ab_topl (lN_mul _ _) ?_
            refine a_lmax X lk_Tt_91 sm_Jm_lmax in_Jm co_Jm_lmax d_Tt_addSplit_160 (by decide) (Nat.le_of_ble_eq_true rfl) (Nat.le_refl _) (Nat.le_refl _) ?_
            refine ab_topl (lmaxN (maxR_lt (max2_lt hb0 (fun a b ha hb => hbb a b (by omega) hb)) (fun a ha => by rw [Nat.zero_add]; exact hbb i a (by omega) (by omega))) (hbb i j (by omega) (by omega))) ?_
            refine a_last X d_Tt_addSplit_163 (hr_be (by omega)) rfl (ab_ix_nI (by omega) (by decide)) ?_
            refine ab_hp (hw_be (by omega)) ?_
            refine ab_hp (show _ = hc r s w c b d k (up2 t.1 kd sp (t.1 kd sp + (sumR (fun b => sumR (tS k.1 t.1 kd l1 l2 b) 0 k.2.2) 0 i + sumR (tS k.1 t.1 kd l1 l2 i) 0 (j + 1))), up2 t.2.1 kd sp (t.2.1 kd sp + (sumR (fun b => sumR (tC k.1 t.2.1 kd l1 l2 b) 0 k.2.2) 0 i + sumR (tC k.1 t.2.1 kd l1 l2 i) 0 (j + 1))), up2 t.2.2.1 kd sp (maxR (tS k.1 t.2.2.1 kd l1 l2 i) (max2 (tS k.1 t.2.2.1 kd l1 l2) (t.2.2.1 kd sp) k.2.2 i) 0 (j + 1)), t.2.2.2) ++ Z from by
              simp only [up2_up2]
              show _ = hc r s w c b d k (up2 t.1 kd sp (t.1 kd sp + (_ + (sumR (tS k.1 t.1 kd l1 l2 i) 0 j + tS k.1 t.1 kd l1 l2 i (0 + j)))), up2 t.2.1 kd sp (t.2.1 kd sp + (_ + (sumR (tC k.1 t.2.1 kd l1 l2 i) 0 j + tC k.1 t.2.1 kd l1 l2 i (0 + j)))), up2 t.2.2.1 kd sp (max (maxR (tS k.1 t.2.2.1 kd l1 l2 i) _ 0 j) (tS k.1 t.2.2.1 kd l1 l2 i (0 + j))), t.2.2.2) ++ Z
              rw [Nat.zero_add, e2, Nat.add_assoc, Nat.add_assoc, Nat.add_assoc, Nat.add_assoc]
              rfl) ?_
            refine a_incN X d_Tt_addSplit_164 rfl (by decide) ?_
            refine a_goto X 18 d_Tt_addSplit_167 (by decide) ?_
            refine ab_sub [(0, .ref 181), (1, .int (nI kd)), (2, .int (nI sp)), (3, .int (nI l1)), (4, .int (nI l2)), (5, .int (nI i)), (6, .int (nI (j + 1)))] rfl ?_
            exact ih2 (j + 1) (by omega) (by omega)
