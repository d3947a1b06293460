set_option maxHeartbeats 4000000 in
set_option maxRecDepth 20000 in
theorem c_Mo_ftr {E : ab_E} {l : Launch} {r : hR} {s : hS} {w c : hW} {b : hB} {d : hD} {k : hK} {t : hT} {ms mk : hA} {mp : hP} {mw : Nat → Int32} {mc : hC} {md : Nat × (Nat → Int32)} {mt : hF} {me : hE} {i j : Nat} {al : Int32} (hi : i < 6) (hj : j < 6) (hn : mp.1 ≤ 6) (hkq : mk.1 ≤ 4) (hru : ∀ i, mk.2.1 i ≤ 4) (hle : ∀ i, mk.2.2 i ≤ 4) (hsg : ∀ p, p < 6 → mp.2.1 p = -1 ∨ ∃ z, z < 4 ∧ mp.2.1 p = nI z) : ab_Con E l y_Mo_findTrees b_Mo_findTrees 8 none 2 57 [.ref 204, .int (nI i), .int (nI j), .int al] (hc r s w c b d k t ++ hm ms mk mp mw mc md mt me) 0 0 (fun v h1 => ∃ mq : hF, invM (vK mk) (vR mp) (al) i j (vT mq.1) (vT mq.2.1) (vT mq.2.2) (fun _ _ _ => True) ∧ v = none ∧ h1 = hc r s w c b d k t ++ hm ms mk mp mw mc md mq me) := by
  have hK : okK (vK mk) := ⟨hkq, fun i j => hru _, fun i j => hle _⟩
  refine ab_con (own := "HiddenRowsModel") (ini := false) (by decide) (fun h => by cases h) rfl (Nat.le_of_ble_eq_true rfl) ?_
  intro G m X
  show ab_R E G m 8 0 0 0 [(0, .ref 204), (1, .int (nI i)), (2, .int (nI j)), (3, .int al)] [] (hc r s w c b d k t ++ hm ms mk mp mw mc md mt me)
  refine a_iconst X (v := nI 1) d_Mo_findTrees_0 (by decide) ?_
  refine a_istore X d_Mo_findTrees_1 (by decide) ?_
  refine ab_sub [(0, .ref 204), (1, .int (nI i)), (2, .int (nI j)), (3, .int al), (4, .int (nI 1))] rfl ?_
  suffices LP : ∀ (mm sz : Nat) (mq : hF), 1 ≤ sz → sz ≤ mp.1 + 1 → mp.1 + 1 - sz < mm → INV mk mp al i j mq (DD sz 0 0) → ab_R E G m 8 0 0 3 [(0, .ref 204), (1, .int (nI i)), (2, .int (nI j)), (3, .int al), (4, .int (nI sz))] [] (hc r s w c b d k t ++ hm ms mk mp mw mc md mq me) from LP (mp.1 + 1) 1 mt (by omega) (by omega) (by omega) (fun kk a b _ _ _ q => absurd q (by unfold DD; omega))
  intro mm
  induction mm with
  | zero => intro sz mq h1 h2 h3 h4; exfalso; omega
  | succ mm ih =>
    intro sz mq hs1 hs2 hmu hI
    refine a_iload X d_Mo_findTrees_3 rfl ?_
    refine a_aload_n X 0 d_Mo_findTrees_5 rfl rfl ?_
    refine a_get X ff_Mo_82 d_Mo_findTrees_6 mq_203 rfl ?_
    refine a_icmp_gtN X 114 (by omega) (by omega) d_Mo_findTrees_9 (by decide) (fun c9 => ?_) (fun c9 => ?_)
    ·
      exact a_vret X d_Mo_findTrees_114 (Nat.le_refl _) (Nat.le_refl _) ⟨mq, hI.mono (fun kk a b _ _ q _ => by have q : b < mp.1 := q; unfold DD; omega), rfl, rfl⟩
    ·
      refine a_iconst X (v := nI 0) d_Mo_findTrees_12 (by decide) ?_
      refine a_istore X d_Mo_findTrees_13 (by decide) ?_
      refine ab_sub [(0, .ref 204), (1, .int (nI i)), (2, .int (nI j)), (3, .int al), (4, .int (nI sz)), (5, .int (nI 0))] rfl ?_
      suffices LQ : ∀ (m2 a0 : Nat) (mq : hF), a0 + sz ≤ mp.1 + 1 → mp.1 + 1 - a0 < m2 → INV mk mp al i j mq (DD sz a0 0) → ab_R E G m 8 0 0 15 [(0, .ref 204), (1, .int (nI i)), (2, .int (nI j)), (3, .int al), (4, .int (nI sz)), (5, .int (nI a0))] [] (hc r s w c b d k t ++ hm ms mk mp mw mc md mq me) from LQ (mp.1 + 2) 0 mq (by omega) (by omega) hI
      clear hI mq
      intro m2
      induction m2 with
      | zero => intro a0 mq h1 h2 h3; exfalso; omega
      | succ m2 ih2 =>
        intro a0 mq ha hm2 hI
        refine a_iload X d_Mo_findTrees_15 rfl ?_
        refine a_iload X d_Mo_findTrees_17 rfl ?_
        refine a_iadd X d_Mo_findTrees_19 ?_
        refine ab_topi (nI_add _ _) ?_
        refine a_aload_n X 0 d_Mo_findTrees_20 rfl rfl ?_
        refine a_get X ff_Mo_82 d_Mo_findTrees_21 mq_203 rfl ?_
        refine a_icmp_gtN X 108 (by omega) (by omega) d_Mo_findTrees_24 (by decide) (fun c24 => ?_) (fun c24 => ?_)
        ·
          refine a_incN X d_Mo_findTrees_108 rfl (by decide) ?_
          refine a_goto X 3 d_Mo_findTrees_111 (by decide) ?_
          refine ab_sub [(0, .ref 204), (1, .int (nI i)), (2, .int (nI j)), (3, .int al), (4, .int (nI (sz + 1)))] rfl ?_
          exact ih (sz + 1) mq (by omega) (by omega) (by omega) (hI.mono (fun kk a b _ hab q q2 => by have q : b < mp.1 := q; unfold DD at *; omega))
        ·
          refine a_iload X d_Mo_findTrees_27 rfl ?_
          refine a_iload X d_Mo_findTrees_29 rfl ?_
          refine a_iadd X d_Mo_findTrees_31 ?_
          refine ab_topi (nI_add _ _) ?_
          refine a_iconst X (v := nI 1) d_Mo_findTrees_32 (by decide) ?_
          refine a_isub X d_Mo_findTrees_33 ?_
          refine ab_topi (pk_sub (by omega)) ?_
          refine a_istore X d_Mo_findTrees_34 (by decide) ?_
          refine a_iconst X (v := nI 0) d_Mo_findTrees_36 (by decide) ?_
          refine a_istore X d_Mo_findTrees_37 (by decide) ?_
          refine ab_sub [(0, .ref 204), (1, .int (nI i)), (2, .int (nI j)), (3, .int al), (4, .int (nI sz)), (5, .int (nI a0)), (6, .int (nI (a0 + sz - 1))), (7, .int (nI 0))] rfl ?_
          suffices LK : ∀ (m3 k0 : Nat) (mq : hF), k0 ≤ mk.1 → mk.1 - k0 < m3 → INV mk mp al i j mq (DD sz a0 k0) → ab_R E G m 8 0 0 39 [(0, .ref 204), (1, .int (nI i)), (2, .int (nI j)), (3, .int al), (4, .int (nI sz)), (5, .int (nI a0)), (6, .int (nI (a0 + sz - 1))), (7, .int (nI k0))] [] (hc r s w c b d k t ++ hm ms mk mp mw mc md mq me) from LK (mk.1 + 1) 0 mq (by omega) (by omega) hI
          clear hI mq
          intro m3
          induction m3 with
          | zero => intro k0 mq h1 h2 h3; exfalso; omega
          | succ m3 ih3 =>
            intro k0 mq hk1 hm3 hI
            refine a_iload X d_Mo_findTrees_39 rfl ?_
            refine a_aload_n X 0 d_Mo_findTrees_41 rfl rfl ?_
            refine a_get X ff_Mo_79 d_Mo_findTrees_42 mq_203 rfl ?_
            refine a_icmp_geN X 102 (by omega) (by omega) d_Mo_findTrees_45 (by decide) (fun c45 => ?_) (fun c45 => ?_)
            ·
              obtain rfl : k0 = mk.1 := by omega
              refine a_incN X d_Mo_findTrees_102 rfl (by decide) ?_
              refine a_goto X 15 d_Mo_findTrees_105 (by decide) ?_
              refine ab_sub [(0, .ref 204), (1, .int (nI i)), (2, .int (nI j)), (3, .int al), (4, .int (nI sz)), (5, .int (nI (a0 + 1)))] rfl ?_
              exact ih2 (a0 + 1) mq (by omega) (by omega) (hI.mono (fun kk a b hkk hab q q2 => by have hkk : kk < mk.1 := hkk; unfold DD at *; omega))
            ·
              refine a_aload_n X 0 d_Mo_findTrees_48 rfl rfl ?_
              refine a_iload X d_Mo_findTrees_49 rfl ?_
              refine a_iload X d_Mo_findTrees_51 rfl ?_
              refine a_iload X d_Mo_findTrees_53 rfl ?_
              refine a_callV X (a := 203) (As := [.int (nI _), .int (nI _), .int (nI _)]) mq_203 rfl fb_Mo_findSpan lk_Mo_159 im_Mo_findSpan se_Mo_findSpan (c_Mo_fsp (by omega) (by omega) (by omega) hkq hru hle hsg (fun y x1 x2 hy h1 h2 => Nat.lt_of_le_of_lt (invM_bb hI hK hn (by omega) (show (a0 + sz - 1) < mp.1 by omega) (fun kk a b _ _ _ q => by unfold DD; omega) y x1 x2 hy h1 h2) (p64 (by omega)))) rfl rfl (Nat.le_of_ble_eq_true rfl) (by decide) (by decide) (Nat.le_refl _) (Nat.le_refl _) d_Mo_findTrees_55 (fun v h1 hp => ?_)
              obtain ⟨rfl, rfl⟩ := hp
              refine a_iload X d_Mo_findTrees_58 rfl ?_
              refine a_iload_n X 1 d_Mo_findTrees_60 rfl rfl ?_
              refine a_icmp_neN X 96 (by omega) (by omega) d_Mo_findTrees_61 (by decide) (fun c61 => ?_) (fun c61 => ?_)
              ·
                have hz : zf al i j k0 a0 (a0 + sz - 1) (fS (vK mk) (vT mq.1) (lfR (vK mk) (vR mp) k0 a0 (a0 + sz - 1)) k0 a0 (a0 + sz - 1) ((a0 + sz - 1) - a0)) = (fS (vK mk) (vT mq.1) (lfR (vK mk) (vR mp) k0 a0 (a0 + sz - 1)) k0 a0 (a0 + sz - 1) ((a0 + sz - 1) - a0)) := if_neg (fun q => c61 q.1)
                refine a_incN X d_Mo_findTrees_96 rfl (by decide) ?_
                refine a_goto X 39 d_Mo_findTrees_99 (by decide) ?_
                refine ab_sub [(0, .ref 204), (1, .int (nI i)), (2, .int (nI j)), (3, .int al), (4, .int (nI sz)), (5, .int (nI a0)), (6, .int (nI (a0 + sz - 1))), (7, .int (nI (k0 + 1)))] rfl ?_
                exact ih3 (k0 + 1) _ (by omega) (by omega) (INV_step hI hK hn hs1 (by omega) (by omega) hz.symm)
              ·
                refine a_iload X d_Mo_findTrees_64 rfl ?_
                refine a_iload_n X 2 d_Mo_findTrees_66 rfl rfl ?_
                refine a_icmp_neN X 96 (by omega) (by omega) d_Mo_findTrees_67 (by decide) (fun c67 => ?_) (fun c67 => ?_)
                ·
                  have hz : zf al i j k0 a0 (a0 + sz - 1) (fS (vK mk) (vT mq.1) (lfR (vK mk) (vR mp) k0 a0 (a0 + sz - 1)) k0 a0 (a0 + sz - 1) ((a0 + sz - 1) - a0)) = (fS (vK mk) (vT mq.1) (lfR (vK mk) (vR mp) k0 a0 (a0 + sz - 1)) k0 a0 (a0 + sz - 1) ((a0 + sz - 1) - a0)) := if_neg (fun q => c67 q.2.1)
                  refine a_incN X d_Mo_findTrees_96 rfl (by decide) ?_
                  refine a_goto X 39 d_Mo_findTrees_99 (by decide) ?_
                  refine ab_sub [(0, .ref 204), (1, .int (nI i)), (2, .int (nI j)), (3, .int al), (4, .int (nI sz)), (5, .int (nI a0)), (6, .int (nI (a0 + sz - 1))), (7, .int (nI (k0 + 1)))] rfl ?_
                  exact ih3 (k0 + 1) _ (by omega) (by omega) (INV_step hI hK hn hs1 (by omega) (by omega) hz.symm)
                ·
                  refine a_iload_n X 3 d_Mo_findTrees_70 rfl rfl ?_
                  refine a_iconst X (v := nI 4) d_Mo_findTrees_71 (by decide) ?_
                  refine a_icmp_eq X 96 d_Mo_findTrees_72 (by decide) (fun c72 => ?_) (fun c72 => ?_)
                  ·
                    have hz : zf al i j k0 a0 (a0 + sz - 1) (fS (vK mk) (vT mq.1) (lfR (vK mk) (vR mp) k0 a0 (a0 + sz - 1)) k0 a0 (a0 + sz - 1) ((a0 + sz - 1) - a0)) = (fS (vK mk) (vT mq.1) (lfR (vK mk) (vR mp) k0 a0 (a0 + sz - 1)) k0 a0 (a0 + sz - 1) ((a0 + sz - 1) - a0)) := if_neg (fun q => q.2.2.1 c72)
                    refine a_incN X d_Mo_findTrees_96 rfl (by decide) ?_
                    refine a_goto X 39 d_Mo_findTrees_99 (by decide) ?_
                    refine ab_sub [(0, .ref 204), (1, .int (nI i)), (2, .int (nI j)), (3, .int al), (4, .int (nI sz)), (5, .int (nI a0)), (6, .int (nI (a0 + sz - 1))), (7, .int (nI (k0 + 1)))] rfl ?_
                    exact ih3 (k0 + 1) _ (by omega) (by omega) (INV_step hI hK hn hs1 (by omega) (by omega) hz.symm)
                  ·
                    refine a_iload X d_Mo_findTrees_75 rfl ?_
                    refine a_iload_n X 3 d_Mo_findTrees_77 rfl rfl ?_
                    refine a_icmp_eq X 96 d_Mo_findTrees_78 (by decide) (fun c78 => ?_) (fun c78 => ?_)
                    ·
                      have hz : zf al i j k0 a0 (a0 + sz - 1) (fS (vK mk) (vT mq.1) (lfR (vK mk) (vR mp) k0 a0 (a0 + sz - 1)) k0 a0 (a0 + sz - 1) ((a0 + sz - 1) - a0)) = (fS (vK mk) (vT mq.1) (lfR (vK mk) (vR mp) k0 a0 (a0 + sz - 1)) k0 a0 (a0 + sz - 1) ((a0 + sz - 1) - a0)) := if_neg (fun q => q.2.2.2 c78)
                      refine a_incN X d_Mo_findTrees_96 rfl (by decide) ?_
                      refine a_goto X 39 d_Mo_findTrees_99 (by decide) ?_
                      refine ab_sub [(0, .ref 204), (1, .int (nI i)), (2, .int (nI j)), (3, .int al), (4, .int (nI sz)), (5, .int (nI a0)), (6, .int (nI (a0 + sz - 1))), (7, .int (nI (k0 + 1)))] rfl ?_
                      exact ih3 (k0 + 1) _ (by omega) (by omega) (INV_step hI hK hn hs1 (by omega) (by omega) hz.symm)
                    ·
                      have hz : zf al i j k0 a0 (a0 + sz - 1) (fS (vK mk) (vT mq.1) (lfR (vK mk) (vR mp) k0 a0 (a0 + sz - 1)) k0 a0 (a0 + sz - 1) ((a0 + sz - 1) - a0)) = 0 := if_pos ⟨c61, c67, c72, c78⟩
                      refine a_aload_n X 0 d_Mo_findTrees_81 rfl rfl ?_
                      refine a_get X ff_Mo_50 d_Mo_findTrees_82 mq_203 rfl ?_
                      refine a_iload X d_Mo_findTrees_85 rfl ?_
                      refine a_iload X d_Mo_findTrees_87 rfl ?_
                      refine a_iload X d_Mo_findTrees_89 rfl ?_
                      refine a_callS X (As := [.int (nI _), .int (nI _), .int (nI _)]) fb_Mo_at lk_Mo_163 sm_Mo_at (c_Mo_at) rfl rfl (Nat.le_of_ble_eq_true rfl) (by decide) (by decide) (Nat.le_refl _) (Nat.le_refl _) d_Mo_findTrees_91 (fun v h1 hp => ?_)
                      obtain ⟨rfl, rfl⟩ := hp
                      refine a_lconst X (v := lN 0) d_Mo_findTrees_94 (by decide) ?_
                      refine a_last X d_Mo_findTrees_95 mq_217 rfl (ab_ix_nI (by omega) (by decide)) ?_
                      refine ab_hp ma_sums ?_
                      refine ab_hp (congrArg (fun q : hF => hc r s w c b d k t ++ hm ms mk mp mw mc md q me) (show ((va_up (va_up mq.1 (24 * a0 + 4 * (a0 + sz - 1) + k0) (fS (vK mk) (vT mq.1) (lfR (vK mk) (vR mp) k0 a0 (a0 + sz - 1)) k0 a0 (a0 + sz - 1) ((a0 + sz - 1) - a0))) (24 * a0 + 4 * (a0 + sz - 1) + k0) 0, va_up mq.2.1 (24 * a0 + 4 * (a0 + sz - 1) + k0) (fC (vK mk) (vT mq.2.1) (lfR (vK mk) (vR mp) k0 a0 (a0 + sz - 1)) k0 a0 (a0 + sz - 1) ((a0 + sz - 1) - a0)), va_up mq.2.2 (24 * a0 + 4 * (a0 + sz - 1) + k0) (fB (vK mk) (vT mq.2.2) (lfR (vK mk) (vR mp) k0 a0 (a0 + sz - 1)) k0 a0 (a0 + sz - 1) ((a0 + sz - 1) - a0))) : hF) = (va_up mq.1 (24 * a0 + 4 * (a0 + sz - 1) + k0) 0, va_up mq.2.1 (24 * a0 + 4 * (a0 + sz - 1) + k0) (fC (vK mk) (vT mq.2.1) (lfR (vK mk) (vR mp) k0 a0 (a0 + sz - 1)) k0 a0 (a0 + sz - 1) ((a0 + sz - 1) - a0)), va_up mq.2.2 (24 * a0 + 4 * (a0 + sz - 1) + k0) (fB (vK mk) (vT mq.2.2) (lfR (vK mk) (vR mp) k0 a0 (a0 + sz - 1)) k0 a0 (a0 + sz - 1) ((a0 + sz - 1) - a0))) by rw [vu_vu])) ?_
                      refine a_incN X d_Mo_findTrees_96 rfl (by decide) ?_
                      refine a_goto X 39 d_Mo_findTrees_99 (by decide) ?_
                      refine ab_sub [(0, .ref 204), (1, .int (nI i)), (2, .int (nI j)), (3, .int al), (4, .int (nI sz)), (5, .int (nI a0)), (6, .int (nI (a0 + sz - 1))), (7, .int (nI (k0 + 1)))] rfl ?_
                      exact ih3 (k0 + 1) _ (by omega) (by omega) (INV_step hI hK hn hs1 (by omega) (by omega) hz.symm)
