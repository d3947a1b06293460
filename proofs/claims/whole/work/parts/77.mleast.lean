set_option maxHeartbeats 4000000 in
set_option maxRecDepth 20000 in
theorem c_Mo_lea {E : ab_E} {l : Launch} {r : hR} {s : hS} {w c : hW} {b : hB} {d : hD} {k : hK} {t : hT} {ms mk : hA} {mp : hP} {mw : Nat → Int32} {mc : hC} {md : Nat × (Nat → Int32)} {mt : hF} {me : hE} {a b1 kd : Nat} (hab : a ≤ b1) (hb6 : b1 < 6) (hkd : kd < 4) (hkq : mk.1 ≤ 4) (hru : ∀ i, mk.2.1 i ≤ 4) (hb0 : (vT mt.2.2) kd (a * 6 + b1) < 2 ^ 63) (hbb : ∀ y x1 x2, y < b1 - a → x1 < mk.1 → x2 < mk.1 → tT (vK mk) (vT mt.2.2) kd a b1 y x1 x2 < 2 ^ 63) : ab_Con E l y_Mo_leastOf b_Mo_leastOf 9 (some .int) 1 22 [.ref 204, .int (nI a), .int (nI b1), .int (nI kd)] (hc r s w c b d k t ++ hm ms mk mp mw mc md mt me) 0 0 (fun v h1 => ((a = b1 ∧ v = some (.int (nI 0))) ∨ (a < b1 ∧ ∃ e x y, isPick (vK mk) (vT mt.2.2) kd a b1 e x y ∧ v = some (.int (nI (100 * (a + 1 + e) + 10 * x + y)))) ∨ (a < b1 ∧ (∀ e x y, e < b1 - a → x < mk.1 → y < mk.1 → tT (vK mk) (vT mt.2.2) kd a b1 e x y ≠ (vT mt.2.2) kd (a * 6 + b1)) ∧ v = some (.int (-1)))) ∧ h1 = hc r s w c b d k t ++ hm ms mk mp mw mc md mt me) := by
  refine ab_con (own := "HiddenRowsModel") (ini := false) (by decide) (fun h => by cases h) rfl (Nat.le_of_ble_eq_true rfl) ?_
  intro G m X
  show ab_R E G m 9 0 0 0 [(0, .ref 204), (1, .int (nI a)), (2, .int (nI b1)), (3, .int (nI kd))] [] (hc r s w c b d k t ++ hm ms mk mp mw mc md mt me)
  refine a_iload_n X 1 d_Mo_leastOf_0 rfl rfl ?_
  refine a_iload_n X 2 d_Mo_leastOf_1 rfl rfl ?_
  refine a_icmp_neN X 7 (by omega) (by omega) d_Mo_leastOf_2 (by decide) (fun c2 => ?_) (fun c2 => ?_)
  ·
    refine a_iload_n X 1 d_Mo_leastOf_7 rfl rfl ?_
    refine a_iconst X (v := nI 1) d_Mo_leastOf_8 (by decide) ?_
    refine a_iadd X d_Mo_leastOf_9 ?_
    refine ab_topi (nI_add _ _) ?_
    refine a_istore X d_Mo_leastOf_10 (by decide) ?_
    refine ab_sub [(0, .ref 204), (1, .int (nI a)), (2, .int (nI b1)), (3, .int (nI kd)), (4, .int (nI (a + 1 + 0)))] rfl ?_
    suffices LP : ∀ (mm e : Nat), e ≤ b1 - a → b1 - a - e < mm → (∀ y1 a1 c1, y1 < e ∨ (y1 = e ∧ (a1 < 0 ∨ (a1 = 0 ∧ c1 < 0))) → c1 < mk.1 → a1 < mk.1 → tT (vK mk) (vT mt.2.2) kd a b1 y1 a1 c1 ≠ (vT mt.2.2) kd (a * 6 + b1)) → ab_R E G m 9 0 0 12 [(0, .ref 204), (1, .int (nI a)), (2, .int (nI b1)), (3, .int (nI kd)), (4, .int (nI (a + 1 + e)))] [] (hc r s w c b d k t ++ hm ms mk mp mw mc md mt me) from LP (b1 - a + 1) 0 (by omega) (by omega) (fun y1 a1 c1 q _ _ => absurd q (by omega))
    intro mm
    induction mm with
    | zero => intro e h1 h2 h3; exfalso; omega
    | succ mm ih =>
      intro e h1 h2 hN
      refine a_iload X d_Mo_leastOf_12 rfl ?_
      refine a_iload_n X 2 d_Mo_leastOf_14 rfl rfl ?_
      refine a_icmp_gtN X 142 (by omega) (by omega) d_Mo_leastOf_15 (by decide) (fun c15 => ?_) (fun c15 => ?_)
      ·
        refine a_iconst X (v := -1) d_Mo_leastOf_142 (by decide) ?_
        exact a_iret X d_Mo_leastOf_143 (Nat.le_refl _) (Nat.le_refl _) ⟨Or.inr (Or.inr ⟨by omega, fun e1 x1 y1 q1 q2 q3 => hN e1 x1 y1 (by omega) q3 q2, rfl⟩), rfl⟩
      ·
        refine a_iconst X (v := nI 0) d_Mo_leastOf_18 (by decide) ?_
        refine a_istore X d_Mo_leastOf_19 (by decide) ?_
        refine ab_sub [(0, .ref 204), (1, .int (nI a)), (2, .int (nI b1)), (3, .int (nI kd)), (4, .int (nI (a + 1 + e))), (5, .int (nI 0))] rfl ?_
        suffices LQ : ∀ (m2 x : Nat), x ≤ mk.1 → mk.1 - x < m2 → (∀ y1 a1 c1, y1 < e ∨ (y1 = e ∧ (a1 < x ∨ (a1 = x ∧ c1 < 0))) → c1 < mk.1 → a1 < mk.1 → tT (vK mk) (vT mt.2.2) kd a b1 y1 a1 c1 ≠ (vT mt.2.2) kd (a * 6 + b1)) → ab_R E G m 9 0 0 21 [(0, .ref 204), (1, .int (nI a)), (2, .int (nI b1)), (3, .int (nI kd)), (4, .int (nI (a + 1 + e))), (5, .int (nI x))] [] (hc r s w c b d k t ++ hm ms mk mp mw mc md mt me) from LQ (mk.1 + 1) 0 (by omega) (by omega) hN
        intro m2
        induction m2 with
        | zero => intro x h3 h4 h5; exfalso; omega
        | succ m2 ih2 =>
          intro x h3 h4 hN2
          refine a_iload X d_Mo_leastOf_21 rfl ?_
          refine a_aload_n X 0 d_Mo_leastOf_23 rfl rfl ?_
          refine a_get X ff_Mo_79 d_Mo_leastOf_24 mq_203 rfl ?_
          refine a_icmp_geN X 136 (by omega) (by omega) d_Mo_leastOf_27 (by decide) (fun c27 => ?_) (fun c27 => ?_)
          ·
            refine a_incN X d_Mo_leastOf_136 rfl (by decide) ?_
            refine a_goto X 12 d_Mo_leastOf_139 (by decide) ?_
            refine ab_sub [(0, .ref 204), (1, .int (nI a)), (2, .int (nI b1)), (3, .int (nI kd)), (4, .int (nI (a + 1 + (e + 1))))] rfl ?_
            exact ih (e + 1) (by omega) (by omega) (fun y1 a1 c1 q g1 g2 => hN2 y1 a1 c1 (by omega) g1 g2)
          ·
            refine a_iconst X (v := nI 0) d_Mo_leastOf_30 (by decide) ?_
            refine a_istore X d_Mo_leastOf_31 (by decide) ?_
            refine ab_sub [(0, .ref 204), (1, .int (nI a)), (2, .int (nI b1)), (3, .int (nI kd)), (4, .int (nI (a + 1 + e))), (5, .int (nI x)), (6, .int (nI 0))] rfl ?_
            suffices LK : ∀ (m3 y : Nat), y ≤ mk.1 → mk.1 - y < m3 → (∀ y1 a1 c1, y1 < e ∨ (y1 = e ∧ (a1 < x ∨ (a1 = x ∧ c1 < y))) → c1 < mk.1 → a1 < mk.1 → tT (vK mk) (vT mt.2.2) kd a b1 y1 a1 c1 ≠ (vT mt.2.2) kd (a * 6 + b1)) → ab_R E G m 9 0 0 33 [(0, .ref 204), (1, .int (nI a)), (2, .int (nI b1)), (3, .int (nI kd)), (4, .int (nI (a + 1 + e))), (5, .int (nI x)), (6, .int (nI y))] [] (hc r s w c b d k t ++ hm ms mk mp mw mc md mt me) from LK (mk.1 + 1) 0 (by omega) (by omega) hN2
            intro m3
            induction m3 with
            | zero => intro y h5 h6 h7; exfalso; omega
            | succ m3 ih3 =>
              intro y h5 h6 hN3
              refine a_iload X d_Mo_leastOf_33 rfl ?_
              refine a_aload_n X 0 d_Mo_leastOf_35 rfl rfl ?_
              refine a_get X ff_Mo_79 d_Mo_leastOf_36 mq_203 rfl ?_
              refine a_icmp_geN X 130 (by omega) (by omega) d_Mo_leastOf_39 (by decide) (fun c39 => ?_) (fun c39 => ?_)
              ·
                refine a_incN X d_Mo_leastOf_130 rfl (by decide) ?_
                refine a_goto X 21 d_Mo_leastOf_133 (by decide) ?_
                refine ab_sub [(0, .ref 204), (1, .int (nI a)), (2, .int (nI b1)), (3, .int (nI kd)), (4, .int (nI (a + 1 + e))), (5, .int (nI (x + 1)))] rfl ?_
                exact ih2 (x + 1) (by omega) (by omega) (fun y1 a1 c1 q g1 g2 => hN3 y1 a1 c1 (by omega) g1 g2)
              ·
                have eB : tT (vK mk) (vT mt.2.2) kd a b1 e x y = mk.2.1 (16 * kd + 4 * x + y) * mt.2.2 (24 * a + 4 * (a + e) + x) * mt.2.2 (24 * (a + 1 + e) + 4 * b1 + y) := by
                  show tS _ _ _ _ _ _ _ = _
                  unfold tS
                  rw [vT_at (by omega), vT_at (by omega)]
                  show mk.2.1 (16 * kd + (x * 4 + y)) * _ * _ = _
                  rw [show 16 * kd + (x * 4 + y) = 16 * kd + 4 * x + y by omega]
                have hb2 := hbb e x y (by omega) (by omega) (by omega)
                have eT : mt.2.2 (24 * a + 4 * b1 + kd) = (vT mt.2.2) kd (a * 6 + b1) := (vT_at (by omega)).symm
                refine a_aload_n X 0 d_Mo_leastOf_42 rfl rfl ?_
                refine a_get X ff_Mo_16 d_Mo_leastOf_43 mq_203 rfl ?_
                refine a_bipush X (v := nI 16) d_Mo_leastOf_46 (by decide) ?_
                refine a_iload_n X 3 d_Mo_leastOf_48 rfl rfl ?_
                refine a_imul X d_Mo_leastOf_49 ?_
                refine ab_topi (pk_mul _ _) ?_
                refine a_iconst X (v := nI 4) d_Mo_leastOf_50 (by decide) ?_
                refine a_iload X d_Mo_leastOf_51 rfl ?_
                refine a_imul X d_Mo_leastOf_53 ?_
                refine ab_topi (pk_mul _ _) ?_
                refine a_iadd X d_Mo_leastOf_54 ?_
                refine ab_topi (nI_add _ _) ?_
                refine a_iload X d_Mo_leastOf_55 rfl ?_
                refine a_iadd X d_Mo_leastOf_57 ?_
                refine ab_topi (nI_add _ _) ?_
                refine a_iald X d_Mo_leastOf_58 mq_206 rfl (ab_ix_nI (by omega) (by decide)) ?_
                refine a_i2l X d_Mo_leastOf_59 ?_
                refine ab_topl (nI_l (by have := hru (16 * kd + 4 * x + y); omega)) ?_
                refine a_aload_n X 0 d_Mo_leastOf_60 rfl rfl ?_
                refine a_get X ff_Mo_56 d_Mo_leastOf_61 mq_203 rfl ?_
                refine a_iload_n X 1 d_Mo_leastOf_64 rfl rfl ?_
                refine a_iload X d_Mo_leastOf_65 rfl ?_
                refine a_iconst X (v := nI 1) d_Mo_leastOf_67 (by decide) ?_
                refine a_isub X d_Mo_leastOf_68 ?_
                refine ab_topi (pk_sub (by omega)) ?_
                refine ab_topi (congrArg nI (show a + 1 + e - 1 = a + e by omega)) ?_
                refine a_iload X d_Mo_leastOf_69 rfl ?_
                refine a_callS X (As := [.int (nI _), .int (nI _), .int (nI _)]) fb_Mo_at lk_Mo_163 sm_Mo_at (c_Mo_at) rfl rfl (Nat.le_of_ble_eq_true rfl) (by decide) (by decide) (Nat.le_refl _) (Nat.le_refl _) d_Mo_leastOf_71 (fun v h1 hp => ?_)
                obtain ⟨rfl, rfl⟩ := hp
                refine a_lald X d_Mo_leastOf_74 mq_219 rfl (ab_ix_nI (by omega) (by decide)) ?_
                refine a_lmul X d_Mo_leastOf_75 ?_
                refine ab_topl (lN_mul _ _) ?_
                refine a_aload_n X 0 d_Mo_leastOf_76 rfl rfl ?_
                refine a_get X ff_Mo_56 d_Mo_leastOf_77 mq_203 rfl ?_
                refine a_iload X d_Mo_leastOf_80 rfl ?_
                refine a_iload_n X 2 d_Mo_leastOf_82 rfl rfl ?_
                refine a_iload X d_Mo_leastOf_83 rfl ?_
                refine a_callS X (As := [.int (nI _), .int (nI _), .int (nI _)]) fb_Mo_at lk_Mo_163 sm_Mo_at (c_Mo_at) rfl rfl (Nat.le_of_ble_eq_true rfl) (by decide) (by decide) (Nat.le_refl _) (Nat.le_refl _) d_Mo_leastOf_85 (fun v h1 hp => ?_)
                obtain ⟨rfl, rfl⟩ := hp
                refine a_lald X d_Mo_leastOf_88 mq_219 rfl (ab_ix_nI (by omega) (by decide)) ?_
                refine a_lmul X d_Mo_leastOf_89 ?_
                refine ab_topl (lN_mul _ _) ?_
                refine ab_topl (congrArg lN eB.symm) ?_
                refine a_lstore X d_Mo_leastOf_90 (by decide) ?_
                refine a_lload X d_Mo_leastOf_92 rfl ?_
                refine a_aload_n X 0 d_Mo_leastOf_94 rfl rfl ?_
                refine a_get X ff_Mo_56 d_Mo_leastOf_95 mq_203 rfl ?_
                refine a_iload_n X 1 d_Mo_leastOf_98 rfl rfl ?_
                refine a_iload_n X 2 d_Mo_leastOf_99 rfl rfl ?_
                refine a_iload_n X 3 d_Mo_leastOf_100 rfl rfl ?_
                refine a_callS X (As := [.int (nI _), .int (nI _), .int (nI _)]) fb_Mo_at lk_Mo_163 sm_Mo_at (c_Mo_at) rfl rfl (Nat.le_of_ble_eq_true rfl) (by decide) (by decide) (Nat.le_refl _) (Nat.le_refl _) d_Mo_leastOf_101 (fun v h1 hp => ?_)
                obtain ⟨rfl, rfl⟩ := hp
                refine a_lald X d_Mo_leastOf_104 mq_219 rfl (ab_ix_nI (by omega) (by decide)) ?_
                refine ab_topl (congrArg lN eT) ?_
                refine a_lc_ne X 124 hb2 hb0 d_Mo_leastOf_105 d_Mo_leastOf_106 (by decide) (fun c105 => ?_) (fun c105 => ?_)
                ·
                  refine a_incN X d_Mo_leastOf_124 rfl (by decide) ?_
                  refine a_goto X 33 d_Mo_leastOf_127 (by decide) ?_
                  refine ab_sub [(0, .ref 204), (1, .int (nI a)), (2, .int (nI b1)), (3, .int (nI kd)), (4, .int (nI (a + 1 + e))), (5, .int (nI x)), (6, .int (nI (y + 1)))] rfl ?_
                  exact ih3 (y + 1) (by omega) (by omega) (fun y1 a1 c1 q g1 g2 => by
                    by_cases z : y1 = e ∧ a1 = x ∧ c1 = y
                    · obtain ⟨rfl, rfl, rfl⟩ := z
                      exact c105
                    · exact hN3 y1 a1 c1 (by omega) g1 g2)
                ·
                  refine a_bipush X (v := nI 100) d_Mo_leastOf_109 (by decide) ?_
                  refine a_iload X d_Mo_leastOf_111 rfl ?_
                  refine a_imul X d_Mo_leastOf_113 ?_
                  refine ab_topi (pk_mul _ _) ?_
                  refine a_bipush X (v := nI 10) d_Mo_leastOf_114 (by decide) ?_
                  refine a_iload X d_Mo_leastOf_116 rfl ?_
                  refine a_imul X d_Mo_leastOf_118 ?_
                  refine ab_topi (pk_mul _ _) ?_
                  refine a_iadd X d_Mo_leastOf_119 ?_
                  refine ab_topi (nI_add _ _) ?_
                  refine a_iload X d_Mo_leastOf_120 rfl ?_
                  refine a_iadd X d_Mo_leastOf_122 ?_
                  refine ab_topi (nI_add _ _) ?_
                  exact a_iret X d_Mo_leastOf_123 (Nat.le_refl _) (Nat.le_refl _) ⟨Or.inr (Or.inl ⟨by omega, e, x, y, ⟨by omega, (show x < mk.1 by omega), (show y < mk.1 by omega), c105, hN3⟩, rfl⟩), rfl⟩
  ·
    refine a_iconst X (v := nI 0) d_Mo_leastOf_5 (by decide) ?_
    exact a_iret X d_Mo_leastOf_6 (Nat.le_refl _) (Nat.le_refl _) ⟨Or.inl ⟨c2, rfl⟩, rfl⟩
