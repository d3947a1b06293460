set_option maxHeartbeats 4000000 in
set_option maxRecDepth 20000 in
theorem c_apr_a {E : ab_E} {l : Launch} {r : hR} {s : hS} {w c : hW} {b : hB} {d : hD} {k : hK} {t : hT} {Z : List ab_C} {sp l1 l2 : Nat} (hkq : k.2.2 ≤ 4) (hsp : sp < 36) (h1 : l1 < 36) (h2 : l2 < 36) (hl1 : l1 ≠ sp) (hl2 : l2 ≠ sp) (hru : ∀ i j, k.1 i j ≤ 4) : ab_Con E l y_Tt_addProducts b_Tt_addProducts 11 none 1 21 [.ref 181, .int (nI sp), .ref 182, .int (nI l1), .ref 197, .int (nI l2)] (hc r s w c b d k t ++ Z) 0 0 (fun v h1 => v = none ∧ h1 = hc r s w c b d k (t.1, t.2.1, t.2.2.1, upC t.2.2.2.1 sp k.2.2 (fun a => t.2.2.2.1 a sp + sum2 (tG k.1 t.1 t.2.2.2.1 a l1 l2) k.2.2), t.2.2.2.2) ++ Z) := by
  refine ab_con (own := "HiddenRows$TreeTables") (ini := false) (by decide) (fun h => by cases h) rfl (Nat.le_of_ble_eq_true rfl) ?_
  intro G m X
  show ab_R E G m 11 0 0 0 [(0, .ref 181), (1, .int (nI sp)), (2, .ref 182), (3, .int (nI l1)), (4, .ref 197), (5, .int (nI l2))] [] (hc r s w c b d k t ++ Z)
  refine a_iconst X (v := nI 0) d_Tt_addProducts_0 (by decide) ?_
  refine a_istore X d_Tt_addProducts_1 (by decide) ?_
  refine ab_sub [(0, .ref 181), (1, .int (nI sp)), (2, .ref 182), (3, .int (nI l1)), (4, .ref 197), (5, .int (nI l2)), (6, .int (nI 0))] rfl ?_
  refine ab_hp (show _ = hc r s w c b d k (t.1, t.2.1, t.2.2.1, upC t.2.2.2.1 sp 0 (fun a => t.2.2.2.1 a sp + sum2 (tG k.1 t.1 t.2.2.2.1 a l1 l2) k.2.2), t.2.2.2.2) ++ Z from by rw [upC_0]) ?_
  suffices LP : ∀ (mm i : Nat), i ≤ k.2.2 → k.2.2 - i < mm → ab_R E G m 11 0 0 3 [(0, .ref 181), (1, .int (nI sp)), (2, .ref 182), (3, .int (nI l1)), (4, .ref 197), (5, .int (nI l2)), (6, .int (nI i))] [] (hc r s w c b d k (t.1, t.2.1, t.2.2.1, upC t.2.2.2.1 sp i (fun a => t.2.2.2.1 a sp + sum2 (tG k.1 t.1 t.2.2.2.1 a l1 l2) k.2.2), t.2.2.2.2) ++ Z) from LP (k.2.2 + 1) 0 (by omega) (by omega)
  intro mm
  induction mm with
  | zero => intro i h1 h2; exfalso; omega
  | succ mm ih =>
    intro i h1 h2
    refine a_iload X d_Tt_addProducts_3 rfl ?_
    refine a_aload_n X 0 d_Tt_addProducts_5 rfl rfl ?_
    refine a_get X ff_Tt_44 d_Tt_addProducts_6 hq_180 rfl ?_
    refine a_get X ff_Tt_60 d_Tt_addProducts_9 hq_169 rfl ?_
    refine a_icmp_geN X 114 (by omega) (by omega) d_Tt_addProducts_12 (by decide) (fun c12 => ?_) (fun c12 => ?_)
    ·
      exact a_vret X d_Tt_addProducts_114 (Nat.le_refl _) (Nat.le_refl _) ⟨rfl, by rw [show i = k.2.2 by omega]⟩
    ·
      refine a_iconst X (v := nI 0) d_Tt_addProducts_15 (by decide) ?_
      refine a_istore X d_Tt_addProducts_16 (by decide) ?_
      refine ab_sub [(0, .ref 181), (1, .int (nI sp)), (2, .ref 182), (3, .int (nI l1)), (4, .ref 197), (5, .int (nI l2)), (6, .int (nI i)), (7, .int (nI 0))] rfl ?_
      refine ab_hp (show _ = hc r s w c b d k (t.1, t.2.1, t.2.2.1, up2 (upC t.2.2.2.1 sp i (fun a => t.2.2.2.1 a sp + sum2 (tG k.1 t.1 t.2.2.2.1 a l1 l2) k.2.2)) i sp (t.2.2.2.1 i sp + sumR (fun b => sumR (tG k.1 t.1 t.2.2.2.1 i l1 l2 b) 0 k.2.2) 0 0), t.2.2.2.2) ++ Z from by
        show _ = hc r s w c b d k (t.1, t.2.1, t.2.2.1, up2 _ i sp (t.2.2.2.1 i sp + 0), t.2.2.2.2) ++ Z
        rw [Nat.add_zero, show t.2.2.2.1 i sp = (upC t.2.2.2.1 sp i (fun a => t.2.2.2.1 a sp + sum2 (tG k.1 t.1 t.2.2.2.1 a l1 l2) k.2.2)) i sp from (upC_out (Nat.le_refl _)).symm, up2_eta]) ?_
      suffices LP2 : ∀ (m2 j : Nat), j ≤ k.2.2 → k.2.2 - j < m2 → ab_R E G m 11 0 0 18 [(0, .ref 181), (1, .int (nI sp)), (2, .ref 182), (3, .int (nI l1)), (4, .ref 197), (5, .int (nI l2)), (6, .int (nI i)), (7, .int (nI j))] [] (hc r s w c b d k (t.1, t.2.1, t.2.2.1, up2 (upC t.2.2.2.1 sp i (fun a => t.2.2.2.1 a sp + sum2 (tG k.1 t.1 t.2.2.2.1 a l1 l2) k.2.2)) i sp (t.2.2.2.1 i sp + sumR (fun b => sumR (tG k.1 t.1 t.2.2.2.1 i l1 l2 b) 0 k.2.2) 0 j), t.2.2.2.2) ++ Z) from LP2 (k.2.2 + 1) 0 (by omega) (by omega)
      intro m2
      induction m2 with
      | zero => intro j h3 h4; exfalso; omega
      | succ m2 ih2 =>
        intro j h3 h4
        refine a_iload X d_Tt_addProducts_18 rfl ?_
        refine a_aload_n X 0 d_Tt_addProducts_20 rfl rfl ?_
        refine a_get X ff_Tt_44 d_Tt_addProducts_21 hq_180 rfl ?_
        refine a_get X ff_Tt_60 d_Tt_addProducts_24 hq_169 rfl ?_
        refine a_icmp_geN X 108 (by omega) (by omega) d_Tt_addProducts_27 (by decide) (fun c27 => ?_) (fun c27 => ?_)
        ·
          refine a_incN X d_Tt_addProducts_108 rfl (by decide) ?_
          refine a_goto X 3 d_Tt_addProducts_111 (by decide) ?_
          refine ab_sub [(0, .ref 181), (1, .int (nI sp)), (2, .ref 182), (3, .int (nI l1)), (4, .ref 197), (5, .int (nI l2)), (6, .int (nI (i + 1)))] rfl ?_
          refine ab_hp (show _ = hc r s w c b d k (t.1, t.2.1, t.2.2.1, upC t.2.2.2.1 sp (i + 1) (fun a => t.2.2.2.1 a sp + sum2 (tG k.1 t.1 t.2.2.2.1 a l1 l2) k.2.2), t.2.2.2.2) ++ Z from by
            rw [show j = k.2.2 by omega]
            exact congrArg (fun z => hc r s w c b d k (t.1, t.2.1, t.2.2.1, z, t.2.2.2.2) ++ Z) (upC_succ t.2.2.2.1 sp i (fun a => t.2.2.2.1 a sp + sum2 (tG k.1 t.1 t.2.2.2.1 a l1 l2) k.2.2))) ?_
          exact ih (i + 1) (by omega) (by omega)
        ·
          refine a_iconst X (v := nI 0) d_Tt_addProducts_30 (by decide) ?_
          refine a_istore X d_Tt_addProducts_31 (by decide) ?_
          refine ab_sub [(0, .ref 181), (1, .int (nI sp)), (2, .ref 182), (3, .int (nI l1)), (4, .ref 197), (5, .int (nI l2)), (6, .int (nI i)), (7, .int (nI j)), (8, .int (nI 0))] rfl ?_
          suffices LP3 : ∀ (m3 e : Nat), e ≤ k.2.2 → k.2.2 - e < m3 → ab_R E G m 11 0 0 33 [(0, .ref 181), (1, .int (nI sp)), (2, .ref 182), (3, .int (nI l1)), (4, .ref 197), (5, .int (nI l2)), (6, .int (nI i)), (7, .int (nI j)), (8, .int (nI e))] [] (hc r s w c b d k (t.1, t.2.1, t.2.2.1, up2 (upC t.2.2.2.1 sp i (fun a => t.2.2.2.1 a sp + sum2 (tG k.1 t.1 t.2.2.2.1 a l1 l2) k.2.2)) i sp (t.2.2.2.1 i sp + (sumR (fun b => sumR (tG k.1 t.1 t.2.2.2.1 i l1 l2 b) 0 k.2.2) 0 j + sumR (tG k.1 t.1 t.2.2.2.1 i l1 l2 j) 0 e)), t.2.2.2.2) ++ Z) from LP3 (k.2.2 + 1) 0 (by omega) (by omega)
          intro m3
          induction m3 with
          | zero => intro e h5 h6; exfalso; omega
          | succ m3 ih3 =>
            intro e h5 h6
            refine a_iload X d_Tt_addProducts_33 rfl ?_
            refine a_aload_n X 0 d_Tt_addProducts_35 rfl rfl ?_
            refine a_get X ff_Tt_44 d_Tt_addProducts_36 hq_180 rfl ?_
            refine a_get X ff_Tt_60 d_Tt_addProducts_39 hq_169 rfl ?_
            refine a_icmp_geN X 102 (by omega) (by omega) d_Tt_addProducts_42 (by decide) (fun c42 => ?_) (fun c42 => ?_)
            ·
              refine a_incN X d_Tt_addProducts_102 rfl (by decide) ?_
              refine a_goto X 18 d_Tt_addProducts_105 (by decide) ?_
              refine ab_sub [(0, .ref 181), (1, .int (nI sp)), (2, .ref 182), (3, .int (nI l1)), (4, .ref 197), (5, .int (nI l2)), (6, .int (nI i)), (7, .int (nI (j + 1)))] rfl ?_
              refine ab_hp (show _ = hc r s w c b d k (t.1, t.2.1, t.2.2.1, up2 (upC t.2.2.2.1 sp i (fun a => t.2.2.2.1 a sp + sum2 (tG k.1 t.1 t.2.2.2.1 a l1 l2) k.2.2)) i sp (t.2.2.2.1 i sp + sumR (fun b => sumR (tG k.1 t.1 t.2.2.2.1 i l1 l2 b) 0 k.2.2) 0 (j + 1)), t.2.2.2.2) ++ Z from by
                rw [show e = k.2.2 by omega]
                show _ = hc r s w c b d k (t.1, t.2.1, t.2.2.1, up2 _ i sp (t.2.2.2.1 i sp + (_ + sumR (tG k.1 t.1 t.2.2.2.1 i l1 l2 (0 + j)) 0 k.2.2)), t.2.2.2.2) ++ Z
                rw [Nat.zero_add]) ?_
              exact ih2 (j + 1) (by omega) (by omega)
            ·
              refine a_aload_n X 0 d_Tt_addProducts_45 rfl rfl ?_
              refine a_get X ff_Tt_44 d_Tt_addProducts_46 hq_180 rfl ?_
              refine a_get X ff_Tt_84 d_Tt_addProducts_49 hq_169 rfl ?_
              refine a_iload X d_Tt_addProducts_52 rfl ?_
              refine a_aald X d_Tt_addProducts_54 hq_170 rfl rfl (ab_ix_nI (by omega) (by decide)) (hg_ru (by omega)) ?_
              refine a_iload X d_Tt_addProducts_55 rfl ?_
              refine a_iload X d_Tt_addProducts_57 rfl ?_
              refine a_callS X (As := [.int (nI _), .int (nI _)]) fb_Ki_parts lk_Tt_88 sm_Ki_parts (c_Ki_parts) rfl rfl (Nat.le_of_ble_eq_true rfl) (by decide) (by decide) (Nat.le_refl _) (Nat.le_refl _) d_Tt_addProducts_59 (fun v h1 hp => ?_)
              obtain ⟨rfl, rfl⟩ := hp
              refine a_iald X d_Tt_addProducts_62 (hr_ru (by omega)) rfl (ab_ix_nI (by omega) (by decide)) ?_
              refine a_i2l X d_Tt_addProducts_63 ?_
              refine ab_topl (nI_l (by have := hru i (j * 4 + e); omega)) ?_
              refine a_lstore X d_Tt_addProducts_64 (by decide) ?_
              refine a_aload_n X 0 d_Tt_addProducts_66 rfl rfl ?_
              refine a_get X ff_Tt_22 d_Tt_addProducts_67 hq_180 rfl ?_
              refine a_iload X d_Tt_addProducts_70 rfl ?_
              refine a_aald X d_Tt_addProducts_72 hq_196 rfl rfl (ab_ix_nI (by omega) (by decide)) (hg_ha (by omega)) ?_
              refine a_iload_n X 1 d_Tt_addProducts_73 rfl rfl ?_
              refine a_dup2 X d_Tt_addProducts_74 rfl rfl ?_
              refine a_lald X d_Tt_addProducts_75 (hr_ha (by omega)) rfl (ab_ix_nI (by omega) (by decide)) ?_
              refine ab_topl (congrArg lN (up2_self _ _ _ _)) ?_
              refine a_lload X d_Tt_addProducts_76 rfl ?_
              refine a_aload_n X 2 d_Tt_addProducts_78 rfl rfl ?_
              refine a_iload X d_Tt_addProducts_79 rfl ?_
              refine a_aald X d_Tt_addProducts_81 hq_181 rfl rfl (ab_ix_nI (by omega) (by decide)) (hg_su (by omega)) ?_
              refine a_iload_n X 3 d_Tt_addProducts_82 rfl rfl ?_
              refine a_lald X d_Tt_addProducts_83 (hr_su (by omega)) rfl (ab_ix_nI (by omega) (by decide)) ?_
              refine a_lmul X d_Tt_addProducts_84 ?_
              refine ab_topl (lN_mul _ _) ?_
              refine a_aload X d_Tt_addProducts_85 rfl ?_
              refine a_iload X d_Tt_addProducts_87 rfl ?_
              refine a_aald X d_Tt_addProducts_89 hq_196 rfl rfl (ab_ix_nI (by omega) (by decide)) (hg_ha (by omega)) ?_
              refine a_iload X d_Tt_addProducts_90 rfl ?_
              refine a_lald X d_Tt_addProducts_92 (hr_ha (by omega)) rfl (ab_ix_nI (by omega) (by decide)) ?_
              refine ab_topl (congrArg lN ((up2_ne (fun q => hl2 q.2)).trans (upC_ne hl2))) ?_
              refine a_lmul X d_Tt_addProducts_93 ?_
              refine ab_topl (lN_mul _ _) ?_
              refine a_ladd X d_Tt_addProducts_94 ?_
              refine ab_topl (lN_add _ _) ?_
              refine a_last X d_Tt_addProducts_95 (hr_ha (by omega)) rfl (ab_ix_nI (by omega) (by decide)) ?_
              refine ab_hp (hw_ha (by omega)) ?_
              refine ab_hp (show _ = hc r s w c b d k (t.1, t.2.1, t.2.2.1, up2 (upC t.2.2.2.1 sp i (fun a => t.2.2.2.1 a sp + sum2 (tG k.1 t.1 t.2.2.2.1 a l1 l2) k.2.2)) i sp (t.2.2.2.1 i sp + (sumR (fun b => sumR (tG k.1 t.1 t.2.2.2.1 i l1 l2 b) 0 k.2.2) 0 j + sumR (tG k.1 t.1 t.2.2.2.1 i l1 l2 j) 0 (e + 1))), t.2.2.2.2) ++ Z from by
                simp only [up2_up2]
                show _ = hc r s w c b d k (t.1, t.2.1, t.2.2.1, up2 _ i sp (t.2.2.2.1 i sp + (_ + (sumR (tG k.1 t.1 t.2.2.2.1 i l1 l2 j) 0 e + tG k.1 t.1 t.2.2.2.1 i l1 l2 j (0 + e)))), t.2.2.2.2) ++ Z
                rw [Nat.zero_add, Nat.add_assoc, Nat.add_assoc]
                rfl) ?_
              refine a_incN X d_Tt_addProducts_96 rfl (by decide) ?_
              refine a_goto X 33 d_Tt_addProducts_99 (by decide) ?_
              refine ab_sub [(0, .ref 181), (1, .int (nI sp)), (2, .ref 182), (3, .int (nI l1)), (4, .ref 197), (5, .int (nI l2)), (6, .int (nI i)), (7, .int (nI j)), (8, .int (nI (e + 1)))] rfl ?_
              exact ih3 (e + 1) (by omega) (by omega)
set_option maxHeartbeats 4000000 in
set_option maxRecDepth 20000 in
theorem c_apr_b {E : ab_E} {l : Launch} {r : hR} {s : hS} {w c : hW} {b : hB} {d : hD} {k : hK} {t : hT} {Z : List ab_C} {sp l1 l2 : Nat} (hkq : k.2.2 ≤ 4) (hsp : sp < 36) (h1 : l1 < 36) (h2 : l2 < 36) (hl1 : l1 ≠ sp) (hl2 : l2 ≠ sp) (hru : ∀ i j, k.1 i j ≤ 4) : ab_Con E l y_Tt_addProducts b_Tt_addProducts 11 none 1 21 [.ref 181, .int (nI sp), .ref 197, .int (nI l1), .ref 182, .int (nI l2)] (hc r s w c b d k t ++ Z) 0 0 (fun v h1 => v = none ∧ h1 = hc r s w c b d k (t.1, t.2.1, t.2.2.1, upC t.2.2.2.1 sp k.2.2 (fun a => t.2.2.2.1 a sp + sum2 (tG k.1 t.2.2.2.1 t.1 a l1 l2) k.2.2), t.2.2.2.2) ++ Z) := by
  refine ab_con (own := "HiddenRows$TreeTables") (ini := false) (by decide) (fun h => by cases h) rfl (Nat.le_of_ble_eq_true rfl) ?_
  intro G m X
  show ab_R E G m 11 0 0 0 [(0, .ref 181), (1, .int (nI sp)), (2, .ref 197), (3, .int (nI l1)), (4, .ref 182), (5, .int (nI l2))] [] (hc r s w c b d k t ++ Z)
  refine a_iconst X (v := nI 0) d_Tt_addProducts_0 (by decide) ?_
  refine a_istore X d_Tt_addProducts_1 (by decide) ?_
  refine ab_sub [(0, .ref 181), (1, .int (nI sp)), (2, .ref 197), (3, .int (nI l1)), (4, .ref 182), (5, .int (nI l2)), (6, .int (nI 0))] rfl ?_
  refine ab_hp (show _ = hc r s w c b d k (t.1, t.2.1, t.2.2.1, upC t.2.2.2.1 sp 0 (fun a => t.2.2.2.1 a sp + sum2 (tG k.1 t.2.2.2.1 t.1 a l1 l2) k.2.2), t.2.2.2.2) ++ Z from by rw [upC_0]) ?_
  suffices LP : ∀ (mm i : Nat), i ≤ k.2.2 → k.2.2 - i < mm → ab_R E G m 11 0 0 3 [(0, .ref 181), (1, .int (nI sp)), (2, .ref 197), (3, .int (nI l1)), (4, .ref 182), (5, .int (nI l2)), (6, .int (nI i))] [] (hc r s w c b d k (t.1, t.2.1, t.2.2.1, upC t.2.2.2.1 sp i (fun a => t.2.2.2.1 a sp + sum2 (tG k.1 t.2.2.2.1 t.1 a l1 l2) k.2.2), t.2.2.2.2) ++ Z) from LP (k.2.2 + 1) 0 (by omega) (by omega)
  intro mm
  induction mm with
  | zero => intro i h1 h2; exfalso; omega
  | succ mm ih =>
    intro i h1 h2
    refine a_iload X d_Tt_addProducts_3 rfl ?_
    refine a_aload_n X 0 d_Tt_addProducts_5 rfl rfl ?_
    refine a_get X ff_Tt_44 d_Tt_addProducts_6 hq_180 rfl ?_
    refine a_get X ff_Tt_60 d_Tt_addProducts_9 hq_169 rfl ?_
    refine a_icmp_geN X 114 (by omega) (by omega) d_Tt_addProducts_12 (by decide) (fun c12 => ?_) (fun c12 => ?_)
    ·
      exact a_vret X d_Tt_addProducts_114 (Nat.le_refl _) (Nat.le_refl _) ⟨rfl, by rw [show i = k.2.2 by omega]⟩
    ·
      refine a_iconst X (v := nI 0) d_Tt_addProducts_15 (by decide) ?_
      refine a_istore X d_Tt_addProducts_16 (by decide) ?_
      refine ab_sub [(0, .ref 181), (1, .int (nI sp)), (2, .ref 197), (3, .int (nI l1)), (4, .ref 182), (5, .int (nI l2)), (6, .int (nI i)), (7, .int (nI 0))] rfl ?_
      refine ab_hp (show _ = hc r s w c b d k (t.1, t.2.1, t.2.2.1, up2 (upC t.2.2.2.1 sp i (fun a => t.2.2.2.1 a sp + sum2 (tG k.1 t.2.2.2.1 t.1 a l1 l2) k.2.2)) i sp (t.2.2.2.1 i sp + sumR (fun b => sumR (tG k.1 t.2.2.2.1 t.1 i l1 l2 b) 0 k.2.2) 0 0), t.2.2.2.2) ++ Z from by
        show _ = hc r s w c b d k (t.1, t.2.1, t.2.2.1, up2 _ i sp (t.2.2.2.1 i sp + 0), t.2.2.2.2) ++ Z
        rw [Nat.add_zero, show t.2.2.2.1 i sp = (upC t.2.2.2.1 sp i (fun a => t.2.2.2.1 a sp + sum2 (tG k.1 t.2.2.2.1 t.1 a l1 l2) k.2.2)) i sp from (upC_out (Nat.le_refl _)).symm, up2_eta]) ?_
      suffices LP2 : ∀ (m2 j : Nat), j ≤ k.2.2 → k.2.2 - j < m2 → ab_R E G m 11 0 0 18 [(0, .ref 181), (1, .int (nI sp)), (2, .ref 197), (3, .int (nI l1)), (4, .ref 182), (5, .int (nI l2)), (6, .int (nI i)), (7, .int (nI j))] [] (hc r s w c b d k (t.1, t.2.1, t.2.2.1, up2 (upC t.2.2.2.1 sp i (fun a => t.2.2.2.1 a sp + sum2 (tG k.1 t.2.2.2.1 t.1 a l1 l2) k.2.2)) i sp (t.2.2.2.1 i sp + sumR (fun b => sumR (tG k.1 t.2.2.2.1 t.1 i l1 l2 b) 0 k.2.2) 0 j), t.2.2.2.2) ++ Z) from LP2 (k.2.2 + 1) 0 (by omega) (by omega)
      intro m2
      induction m2 with
      | zero => intro j h3 h4; exfalso; omega
      | succ m2 ih2 =>
        intro j h3 h4
        refine a_iload X d_Tt_addProducts_18 rfl ?_
        refine a_aload_n X 0 d_Tt_addProducts_20 rfl rfl ?_
        refine a_get X ff_Tt_44 d_Tt_addProducts_21 hq_180 rfl ?_
        refine a_get X ff_Tt_60 d_Tt_addProducts_24 hq_169 rfl ?_
        refine a_icmp_geN X 108 (by omega) (by omega) d_Tt_addProducts_27 (by decide) (fun c27 => ?_) (fun c27 => ?_)
        ·
          refine a_incN X d_Tt_addProducts_108 rfl (by decide) ?_
          refine a_goto X 3 d_Tt_addProducts_111 (by decide) ?_
          refine ab_sub [(0, .ref 181), (1, .int (nI sp)), (2, .ref 197), (3, .int (nI l1)), (4, .ref 182), (5, .int (nI l2)), (6, .int (nI (i + 1)))] rfl ?_
          refine ab_hp (show _ = hc r s w c b d k (t.1, t.2.1, t.2.2.1, upC t.2.2.2.1 sp (i + 1) (fun a => t.2.2.2.1 a sp + sum2 (tG k.1 t.2.2.2.1 t.1 a l1 l2) k.2.2), t.2.2.2.2) ++ Z from by
            rw [show j = k.2.2 by omega]
            exact congrArg (fun z => hc r s w c b d k (t.1, t.2.1, t.2.2.1, z, t.2.2.2.2) ++ Z) (upC_succ t.2.2.2.1 sp i (fun a => t.2.2.2.1 a sp + sum2 (tG k.1 t.2.2.2.1 t.1 a l1 l2) k.2.2))) ?_
          exact ih (i + 1) (by omega) (by omega)
        ·
          refine a_iconst X (v := nI 0) d_Tt_addProducts_30 (by decide) ?_
          refine a_istore X d_Tt_addProducts_31 (by decide) ?_
          refine ab_sub [(0, .ref 181), (1, .int (nI sp)), (2, .ref 197), (3, .int (nI l1)), (4, .ref 182), (5, .int (nI l2)), (6, .int (nI i)), (7, .int (nI j)), (8, .int (nI 0))] rfl ?_
          suffices LP3 : ∀ (m3 e : Nat), e ≤ k.2.2 → k.2.2 - e < m3 → ab_R E G m 11 0 0 33 [(0, .ref 181), (1, .int (nI sp)), (2, .ref 197), (3, .int (nI l1)), (4, .ref 182), (5, .int (nI l2)), (6, .int (nI i)), (7, .int (nI j)), (8, .int (nI e))] [] (hc r s w c b d k (t.1, t.2.1, t.2.2.1, up2 (upC t.2.2.2.1 sp i (fun a => t.2.2.2.1 a sp + sum2 (tG k.1 t.2.2.2.1 t.1 a l1 l2) k.2.2)) i sp (t.2.2.2.1 i sp + (sumR (fun b => sumR (tG k.1 t.2.2.2.1 t.1 i l1 l2 b) 0 k.2.2) 0 j + sumR (tG k.1 t.2.2.2.1 t.1 i l1 l2 j) 0 e)), t.2.2.2.2) ++ Z) from LP3 (k.2.2 + 1) 0 (by omega) (by omega)
          intro m3
          induction m3 with
          | zero => intro e h5 h6; exfalso; omega
          | succ m3 ih3 =>
            intro e h5 h6
            refine a_iload X d_Tt_addProducts_33 rfl ?_
            refine a_aload_n X 0 d_Tt_addProducts_35 rfl rfl ?_
            refine a_get X ff_Tt_44 d_Tt_addProducts_36 hq_180 rfl ?_
            refine a_get X ff_Tt_60 d_Tt_addProducts_39 hq_169 rfl ?_
            refine a_icmp_geN X 102 (by omega) (by omega) d_Tt_addProducts_42 (by decide) (fun c42 => ?_) (fun c42 => ?_)
            ·
              refine a_incN X d_Tt_addProducts_102 rfl (by decide) ?_
              refine a_goto X 18 d_Tt_addProducts_105 (by decide) ?_
              refine ab_sub [(0, .ref 181), (1, .int (nI sp)), (2, .ref 197), (3, .int (nI l1)), (4, .ref 182), (5, .int (nI l2)), (6, .int (nI i)), (7, .int (nI (j + 1)))] rfl ?_
              refine ab_hp (show _ = hc r s w c b d k (t.1, t.2.1, t.2.2.1, up2 (upC t.2.2.2.1 sp i (fun a => t.2.2.2.1 a sp + sum2 (tG k.1 t.2.2.2.1 t.1 a l1 l2) k.2.2)) i sp (t.2.2.2.1 i sp + sumR (fun b => sumR (tG k.1 t.2.2.2.1 t.1 i l1 l2 b) 0 k.2.2) 0 (j + 1)), t.2.2.2.2) ++ Z from by
                rw [show e = k.2.2 by omega]
                show _ = hc r s w c b d k (t.1, t.2.1, t.2.2.1, up2 _ i sp (t.2.2.2.1 i sp + (_ + sumR (tG k.1 t.2.2.2.1 t.1 i l1 l2 (0 + j)) 0 k.2.2)), t.2.2.2.2) ++ Z
                rw [Nat.zero_add]) ?_
              exact ih2 (j + 1) (by omega) (by omega)
            ·
              refine a_aload_n X 0 d_Tt_addProducts_45 rfl rfl ?_
              refine a_get X ff_Tt_44 d_Tt_addProducts_46 hq_180 rfl ?_
              refine a_get X ff_Tt_84 d_Tt_addProducts_49 hq_169 rfl ?_
              refine a_iload X d_Tt_addProducts_52 rfl ?_
              refine a_aald X d_Tt_addProducts_54 hq_170 rfl rfl (ab_ix_nI (by omega) (by decide)) (hg_ru (by omega)) ?_
              refine a_iload X d_Tt_addProducts_55 rfl ?_
              refine a_iload X d_Tt_addProducts_57 rfl ?_
              refine a_callS X (As := [.int (nI _), .int (nI _)]) fb_Ki_parts lk_Tt_88 sm_Ki_parts (c_Ki_parts) rfl rfl (Nat.le_of_ble_eq_true rfl) (by decide) (by decide) (Nat.le_refl _) (Nat.le_refl _) d_Tt_addProducts_59 (fun v h1 hp => ?_)
              obtain ⟨rfl, rfl⟩ := hp
              refine a_iald X d_Tt_addProducts_62 (hr_ru (by omega)) rfl (ab_ix_nI (by omega) (by decide)) ?_
              refine a_i2l X d_Tt_addProducts_63 ?_
              refine ab_topl (nI_l (by have := hru i (j * 4 + e); omega)) ?_
              refine a_lstore X d_Tt_addProducts_64 (by decide) ?_
              refine a_aload_n X 0 d_Tt_addProducts_66 rfl rfl ?_
              refine a_get X ff_Tt_22 d_Tt_addProducts_67 hq_180 rfl ?_
              refine a_iload X d_Tt_addProducts_70 rfl ?_
              refine a_aald X d_Tt_addProducts_72 hq_196 rfl rfl (ab_ix_nI (by omega) (by decide)) (hg_ha (by omega)) ?_
              refine a_iload_n X 1 d_Tt_addProducts_73 rfl rfl ?_
              refine a_dup2 X d_Tt_addProducts_74 rfl rfl ?_
              refine a_lald X d_Tt_addProducts_75 (hr_ha (by omega)) rfl (ab_ix_nI (by omega) (by decide)) ?_
              refine ab_topl (congrArg lN (up2_self _ _ _ _)) ?_
              refine a_lload X d_Tt_addProducts_76 rfl ?_
              refine a_aload_n X 2 d_Tt_addProducts_78 rfl rfl ?_
              refine a_iload X d_Tt_addProducts_79 rfl ?_
              refine a_aald X d_Tt_addProducts_81 hq_196 rfl rfl (ab_ix_nI (by omega) (by decide)) (hg_ha (by omega)) ?_
              refine a_iload_n X 3 d_Tt_addProducts_82 rfl rfl ?_
              refine a_lald X d_Tt_addProducts_83 (hr_ha (by omega)) rfl (ab_ix_nI (by omega) (by decide)) ?_
              refine ab_topl (congrArg lN ((up2_ne (fun q => hl1 q.2)).trans (upC_ne hl1))) ?_
              refine a_lmul X d_Tt_addProducts_84 ?_
              refine ab_topl (lN_mul _ _) ?_
              refine a_aload X d_Tt_addProducts_85 rfl ?_
              refine a_iload X d_Tt_addProducts_87 rfl ?_
              refine a_aald X d_Tt_addProducts_89 hq_181 rfl rfl (ab_ix_nI (by omega) (by decide)) (hg_su (by omega)) ?_
              refine a_iload X d_Tt_addProducts_90 rfl ?_
              refine a_lald X d_Tt_addProducts_92 (hr_su (by omega)) rfl (ab_ix_nI (by omega) (by decide)) ?_
              refine a_lmul X d_Tt_addProducts_93 ?_
              refine ab_topl (lN_mul _ _) ?_
              refine a_ladd X d_Tt_addProducts_94 ?_
              refine ab_topl (lN_add _ _) ?_
              refine a_last X d_Tt_addProducts_95 (hr_ha (by omega)) rfl (ab_ix_nI (by omega) (by decide)) ?_
              refine ab_hp (hw_ha (by omega)) ?_
              refine ab_hp (show _ = hc r s w c b d k (t.1, t.2.1, t.2.2.1, up2 (upC t.2.2.2.1 sp i (fun a => t.2.2.2.1 a sp + sum2 (tG k.1 t.2.2.2.1 t.1 a l1 l2) k.2.2)) i sp (t.2.2.2.1 i sp + (sumR (fun b => sumR (tG k.1 t.2.2.2.1 t.1 i l1 l2 b) 0 k.2.2) 0 j + sumR (tG k.1 t.2.2.2.1 t.1 i l1 l2 j) 0 (e + 1))), t.2.2.2.2) ++ Z from by
                simp only [up2_up2]
                show _ = hc r s w c b d k (t.1, t.2.1, t.2.2.1, up2 _ i sp (t.2.2.2.1 i sp + (_ + (sumR (tG k.1 t.2.2.2.1 t.1 i l1 l2 j) 0 e + tG k.1 t.2.2.2.1 t.1 i l1 l2 j (0 + e)))), t.2.2.2.2) ++ Z
                rw [Nat.zero_add, Nat.add_assoc, Nat.add_assoc]
                rfl) ?_
              refine a_incN X d_Tt_addProducts_96 rfl (by decide) ?_
              refine a_goto X 33 d_Tt_addProducts_99 (by decide) ?_
              refine ab_sub [(0, .ref 181), (1, .int (nI sp)), (2, .ref 197), (3, .int (nI l1)), (4, .ref 182), (5, .int (nI l2)), (6, .int (nI i)), (7, .int (nI j)), (8, .int (nI (e + 1)))] rfl ?_
              exact ih3 (e + 1) (by omega) (by omega)
