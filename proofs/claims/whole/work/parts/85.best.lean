def tolR (st : Nat) : Nat → Nat
  | 0 => 2 * st
  | e + 1 => tolR st e * 8 + (2 * st + 1)
theorem tolR_lt {st : Nat} (h : st < 4) : ∀ e, tolR st e < 8 ^ (e + 1)
  | 0 => by show 2 * st < 8; omega
  | e + 1 => by
    have := tolR_lt h e
    show tolR st e * 8 + (2 * st + 1) < 8 ^ (e + 2)
    rw [Nat.pow_succ]
    omega
set_option maxHeartbeats 4000000 in
set_option maxRecDepth 20000 in
theorem c_Bw_lEn {E : ab_E} {l : Launch} {r : hR} {s : hS} {w c : hW} {b : hB} {d : hD} {k : hK} {t : hT} {Z : List ab_C} {p st : Nat} {M : Nat → hL → Prop} (hn : r.2.2 ≤ 6) (hs : okS s) (hp : p < r.2.2) (hst : st < 4) (h0 : M 0 ((b.1 (p * 4 + st + 1)).1, (b.1 (p * 4 + st + 1)).2.1, 0)) (hM : ∀ e L, e < 3 → p + e + 1 ≤ r.2.2 → M e L → (p + (e + 1) = r.2.2 → ((segR id s w.1 p (e + 1) st) * s.1 st 1) < 2 ^ 63 ∧ (∀ j, j < L.2.2 → L.1 j < 2 ^ 63) ∧ (∀ j, j < L.2.2 → L.2.1 j < 2 ^ 31) ∧ L.2.2 ≤ 10 ∧ ((((segR id s w.1 p (e + 1) st) * s.1 st 1) = 0 ∨ ∃ p0, isPos L ((segR id s w.1 p (e + 1) st) * s.1 st 1) (tolR st e) p0 ∧ 10 ≤ p0) → M (e + 1) L) ∧ ∀ p0 L1, isPos L ((segR id s w.1 p (e + 1) st) * s.1 st 1) (tolR st e) p0 → p0 < 10 → okOff L L1 ((segR id s w.1 p (e + 1) st) * s.1 st 1) (tolR st e) p0 → M (e + 1) L1) ∧ (p + (e + 1) < r.2.2 → ∃ J : Nat → hL → Prop, J 0 L ∧ (∀ y L, y < s.2.2 → J y L → ∃ I : Nat → hL → Prop, I 0 L ∧ (b.1 ((p + (e + 1)) * 4 + y + 1)).2.2 ≤ 10 ∧ okStep (b.1 ((p + (e + 1)) * 4 + y + 1)) ((segR id s w.1 p (e + 1) st) * s.2.1 st y) (tolR st e * 2 ^ (3 * (r.2.2 - (p + (e + 1))))) I ∧ ∀ L1, I (b.1 ((p + (e + 1)) * 4 + y + 1)).2.2 L1 → J (y + 1) L1) ∧ ∀ L1, J s.2.2 L1 → M (e + 1) L1)) : ab_Con E l y_Bw_listEnds b_Bw_listEnds 8 none 4 102 [.ref 92, .int (nI p), .int (nI st)] (hc r s w c b d k t ++ Z) 0 0 (fun v h1 => ∃ (e : Nat) (L : hL), e = min 3 (r.2.2 - p) ∧ M e L ∧ v = none ∧ h1 = hc r s w c (va_up b.1 (p * 4 + st + 1) L, b.2) d k t ++ Z) := by
  have hq := hs.1
  have hp6 : p < 6 := by omega
  have hlt : (p * 4 + st + 1) < 25 := by omega
  refine ab_con (own := "HiddenRows$BestWays") (ini := false) (by decide) (fun h => by cases h) rfl (Nat.le_of_ble_eq_true rfl) ?_
  intro G m X
  show ab_R E G m 8 0 0 0 [(0, .ref 92), (1, .int (nI p)), (2, .int (nI st))] [] (hc r s w c b d k t ++ Z)
  refine a_aload_n X 0 d_Bw_listEnds_0 rfl rfl ?_
  refine a_iload_n X 1 d_Bw_listEnds_1 rfl rfl ?_
  refine a_iload_n X 2 d_Bw_listEnds_2 rfl rfl ?_
  refine a_callV X (a := 91) (As := [.int (nI _), .int (nI _)]) hq_91 rfl fb_Bw_endsFrom lk_Bw_68 im_Bw_endsFrom se_Bw_endsFrom (c_Bw_ends hp6 hst) rfl rfl (Nat.le_of_ble_eq_true rfl) (by decide) (by decide) (Nat.le_refl _) (Nat.le_refl _) d_Bw_listEnds_3 (fun v h1 hp => ?_)
  obtain ⟨rfl, rfl⟩ := hp
  refine a_astore_n X 3 d_Bw_listEnds_6 rfl (by decide) ?_
  refine a_aload_n X 3 d_Bw_listEnds_7 rfl rfl ?_
  refine a_iconst X (v := nI 0) d_Bw_listEnds_8 (by decide) ?_
  refine a_put X ff_Bw_61 d_Bw_listEnds_9 (hr_lo hlt) (Nat.le_of_ble_eq_true rfl) rfl rfl ?_
  refine ab_hp (hw_lo (v := 0) hlt) ?_
  refine a_iconst X (v := nI 2) d_Bw_listEnds_12 (by decide) ?_
  refine a_iload_n X 2 d_Bw_listEnds_13 rfl rfl ?_
  refine a_imul X d_Bw_listEnds_14 ?_
  refine ab_topi (pk_mul _ _) ?_
  refine a_istore X d_Bw_listEnds_15 (by decide) ?_
  refine a_iconst X (v := nI 1) d_Bw_listEnds_17 (by decide) ?_
  refine a_istore X d_Bw_listEnds_18 (by decide) ?_
  refine ab_sub [(0, .ref 92), (1, .int (nI p)), (2, .int (nI st)), (3, .ref (93 + 3 * (p * 4 + st + 1) + 1)), (4, .int (nI (tolR st 0))), (5, .int (nI (0 + 1)))] rfl ?_
  suffices LP : ∀ (mm e : Nat) (L : hL), e ≤ 3 → p + e ≤ r.2.2 → 3 - e < mm → M e L → ab_R E G m 8 0 0 20 [(0, .ref 92), (1, .int (nI p)), (2, .int (nI st)), (3, .ref (93 + 3 * (p * 4 + st + 1) + 1)), (4, .int (nI (tolR st e))), (5, .int (nI (e + 1)))] [] (hc r s w c (va_up b.1 (p * 4 + st + 1) L, b.2) d k t ++ Z) from LP 4 0 ((b.1 (p * 4 + st + 1)).1, (b.1 (p * 4 + st + 1)).2.1, 0) (by omega) (by omega) (by omega) h0
  intro mm
  induction mm with
  | zero => intro e L h1 h2 h3 h4; exfalso; omega
  | succ mm ih =>
    intro e L h1 hpe h2 hMv
    have htl := tolR_lt hst e
    have h8 : 8 ^ (e + 1) ≤ 8 ^ 4 := Nat.pow_le_pow_right (by omega) (by omega)
    have hLL : ((va_up b.1 (p * 4 + st + 1) L, b.2)).1 (p * 4 + st + 1) = L := va_up_self _ _ _
    refine a_iload X d_Bw_listEnds_20 rfl ?_
    refine a_iconst X (v := nI 3) d_Bw_listEnds_22 (by decide) ?_
    refine a_icmp_gtN X 124 (by omega) (by omega) d_Bw_listEnds_23 (by decide) (fun c23 => ?_) (fun c23 => ?_)
    ·
      exact a_vret X d_Bw_listEnds_124 (Nat.le_refl _) (Nat.le_refl _) ⟨e, L, by omega, hMv, rfl, rfl⟩
    ·
      refine a_iload_n X 1 d_Bw_listEnds_26 rfl rfl ?_
      refine a_iload X d_Bw_listEnds_27 rfl ?_
      refine a_iadd X d_Bw_listEnds_29 ?_
      refine ab_topi (nI_add _ _) ?_
      refine a_aload_n X 0 d_Bw_listEnds_30 rfl rfl ?_
      refine a_get X ff_Bw_26 d_Bw_listEnds_31 hq_91 rfl ?_
      refine a_get X ff_Bw_43 d_Bw_listEnds_34 hq_1 rfl ?_
      refine a_icmp_gtN X 124 (by omega) (by omega) d_Bw_listEnds_37 (by decide) (fun c37 => ?_) (fun c37 => ?_)
      ·
        exact a_vret X d_Bw_listEnds_124 (Nat.le_refl _) (Nat.le_refl _) ⟨e, L, by omega, hMv, rfl, rfl⟩
      ·
        obtain ⟨m1, m2⟩ := hM e L (by omega) (by omega) hMv
        refine a_aload_n X 0 d_Bw_listEnds_40 rfl rfl ?_
        refine a_get X ff_Bw_34 d_Bw_listEnds_41 hq_91 rfl ?_
        refine a_iload_n X 1 d_Bw_listEnds_44 rfl rfl ?_
        refine a_iload X d_Bw_listEnds_45 rfl ?_
        refine a_iload_n X 2 d_Bw_listEnds_47 rfl rfl ?_
        refine a_callV X (a := 15) (As := [.int (nI _), .int (nI _), .int (nI _)]) hq_15 rfl fb_Ws_segment lk_Bw_76 im_Ws_segment se_Ws_segment (c_seg_w hs.2.1 (by omega) (by omega) hst (by omega)) rfl rfl (Nat.le_of_ble_eq_true rfl) (by decide) (by decide) (Nat.le_refl _) (Nat.le_refl _) d_Bw_listEnds_48 (fun v h1 hp => ?_)
        obtain ⟨rfl, rfl⟩ := hp
        refine a_lstore X d_Bw_listEnds_51 (by decide) ?_
        refine a_iload_n X 1 d_Bw_listEnds_53 rfl rfl ?_
        refine a_iload X d_Bw_listEnds_54 rfl ?_
        refine a_iadd X d_Bw_listEnds_56 ?_
        refine ab_topi (nI_add _ _) ?_
        refine a_aload_n X 0 d_Bw_listEnds_57 rfl rfl ?_
        refine a_get X ff_Bw_26 d_Bw_listEnds_58 hq_91 rfl ?_
        refine a_get X ff_Bw_43 d_Bw_listEnds_61 hq_1 rfl ?_
        refine a_icmp_neN X 92 (by omega) (by omega) d_Bw_listEnds_64 (by decide) (fun c64 => ?_) (fun c64 => ?_)
        ·
          obtain ⟨J, j0, j1, j2⟩ := m2 (by omega)
          have hne : ∀ y, y < s.2.2 → (p + (e + 1)) * 4 + y + 1 ≠ (p * 4 + st + 1) := fun y hy => by omega
          have hLF : ∀ y, y < s.2.2 → ((va_up b.1 (p * 4 + st + 1) L, b.2)).1 ((p + (e + 1)) * 4 + y + 1) = b.1 ((p + (e + 1)) * 4 + y + 1) := fun y hy => va_up_ne _ _ (hne y hy)
          refine a_aload_n X 0 d_Bw_listEnds_92 rfl rfl ?_
          refine a_aload_n X 3 d_Bw_listEnds_93 rfl rfl ?_
          refine a_lload X d_Bw_listEnds_94 rfl ?_
          refine a_iload X d_Bw_listEnds_96 rfl ?_
          refine a_iload_n X 1 d_Bw_listEnds_98 rfl rfl ?_
          refine a_iload X d_Bw_listEnds_99 rfl ?_
          refine a_iadd X d_Bw_listEnds_101 ?_
          refine ab_topi (nI_add _ _) ?_
          refine a_iload_n X 2 d_Bw_listEnds_102 rfl rfl ?_
          have hsh : tolR st e * 2 ^ (3 * (r.2.2 - (p + (e + 1)))) < 2 ^ 32 := by
            have q : 2 ^ (3 * (r.2.2 - (p + (e + 1)))) ≤ 2 ^ (3 * (5 - e)) := Nat.pow_le_pow_right (by omega) (by omega)
            have q2 := Nat.mul_lt_mul_of_lt_of_le htl q (Nat.pow_pos (by omega))
            refine Nat.lt_of_lt_of_le q2 ?_
            rcases (show e = 0 ∨ e = 1 ∨ e = 2 by omega) with rfl | rfl | rfl <;> decide
          refine a_callV X (a := 91) (As := [.ref (93 + 3 * (p * 4 + st + 1) + 1), .long (lN _), .int (nI _), .int (nI _), .int (nI _)]) hq_91 rfl fb_Bw_offerMoves lk_Bw_84 im_Bw_offerMoves se_Bw_offerMoves (c_Bw_offM (b := (va_up b.1 (p * 4 + st + 1) L, b.2)) (lt := (p * 4 + st + 1)) (J := J) hn hs hlt (by omega) (by omega) hst hne hsh (by rw [hLL]; exact j0) (fun y L2 hy hJ2 => by rw [hLF y hy]; exact j1 y L2 hy hJ2)) rfl rfl (Nat.le_of_ble_eq_true rfl) (by decide) (by decide) (Nat.le_refl _) (Nat.le_refl _) d_Bw_listEnds_103 (fun v h1 hp => ?_)
          obtain ⟨L1, hJ1, rfl, rfl⟩ := hp
          refine ab_hp (show _ = hc r s w c (va_up b.1 (p * 4 + st + 1) L1, b.2) d k t ++ Z by dsimp only; rw [bx_uu]) ?_
          have hM1 := j2 L1 hJ1
          refine a_iload X d_Bw_listEnds_106 rfl ?_
          refine a_iconst X (v := nI 3) d_Bw_listEnds_108 (by decide) ?_
          refine a_ishl X d_Bw_listEnds_109 ?_
          refine ab_topi (sh_l (t := 3) (by omega) (by omega)) ?_
          refine a_iconst X (v := nI 2) d_Bw_listEnds_110 (by decide) ?_
          refine a_iload_n X 2 d_Bw_listEnds_111 rfl rfl ?_
          refine a_imul X d_Bw_listEnds_112 ?_
          refine ab_topi (pk_mul _ _) ?_
          refine a_iconst X (v := nI 1) d_Bw_listEnds_113 (by decide) ?_
          refine a_iadd X d_Bw_listEnds_114 ?_
          refine ab_topi (nI_add _ _) ?_
          refine a_ior X d_Bw_listEnds_115 ?_
          refine ab_topi (sh_or (by omega)) ?_
          refine a_istore X d_Bw_listEnds_116 (by decide) ?_
          refine a_incN X d_Bw_listEnds_118 rfl (by decide) ?_
          refine a_goto X 20 d_Bw_listEnds_121 (by decide) ?_
          refine ab_sub [(0, .ref 92), (1, .int (nI p)), (2, .int (nI st)), (3, .ref (93 + 3 * (p * 4 + st + 1) + 1)), (4, .int (nI (tolR st (e + 1)))), (5, .int (nI ((e + 1) + 1)))] rfl ?_
          exact ih (e + 1) L1 (by omega) (by omega) (by omega) hM1
        ·
          obtain ⟨e1, e2, e3, e4, e5, e6⟩ := m1 (by omega)
          refine a_aload_n X 3 d_Bw_listEnds_67 rfl rfl ?_
          refine a_lload X d_Bw_listEnds_68 rfl ?_
          refine a_aload_n X 0 d_Bw_listEnds_70 rfl rfl ?_
          refine a_get X ff_Bw_30 d_Bw_listEnds_71 hq_91 rfl ?_
          refine a_get X ff_Bw_64 d_Bw_listEnds_74 hq_4 rfl ?_
          refine a_iload_n X 2 d_Bw_listEnds_77 rfl rfl ?_
          refine a_aald X d_Bw_listEnds_78 hq_5 rfl rfl (ab_ix_nI (by omega) (by decide)) (hg_wt (by omega)) ?_
          refine a_iconst X (v := nI 1) d_Bw_listEnds_79 (by decide) ?_
          refine a_iald X d_Bw_listEnds_80 (hr_wt (by omega)) rfl (ab_ix_nI (by omega) (by decide)) ?_
          refine a_i2l X d_Bw_listEnds_81 ?_
          refine ab_topl (nI_l (by have := hs.2.1 st 1; omega)) ?_
          refine a_lmul X d_Bw_listEnds_82 ?_
          refine ab_topl (lN_mul _ _) ?_
          refine a_iload X d_Bw_listEnds_83 rfl ?_
          refine a_callV X (a := 93 + 3 * (p * 4 + st + 1)) (As := [.long (lN _), .int (nI _)]) (hr_lo hlt) rfl fb_Wl_offer lk_Bw_80 im_Wl_offer se_Wl_offer (c_off (b := (va_up b.1 (p * 4 + st + 1) L, b.2)) (li := (p * 4 + st + 1)) hlt e1 (by omega) (by rw [hLL]; exact e2) (by rw [hLL]; exact e3) (by rw [hLL]; exact e4)) rfl rfl (Nat.le_of_ble_eq_true rfl) (by decide) (by decide) (Nat.le_refl _) (Nat.le_refl _) d_Bw_listEnds_85 (fun v h1 hp => ?_)
          rw [hLL] at hp
          rcases hp with ⟨rfl, rfl, hrj⟩ | ⟨rfl, pp, L1, hps, hp10, hof, rfl⟩
          ·
            refine a_pop X d_Bw_listEnds_88 rfl ?_
            refine a_goto X 106 d_Bw_listEnds_89 (by decide) ?_
            have hM1 := e5 hrj
            obtain ⟨L1, hL1⟩ : ∃ L1, L1 = L := ⟨_, rfl⟩
            rw [← hL1] at hM1
            refine ab_hp (show _ = hc r s w c (va_up b.1 (p * 4 + st + 1) L1, b.2) d k t ++ Z by rw [hL1]) ?_
            refine a_iload X d_Bw_listEnds_106 rfl ?_
            refine a_iconst X (v := nI 3) d_Bw_listEnds_108 (by decide) ?_
            refine a_ishl X d_Bw_listEnds_109 ?_
            refine ab_topi (sh_l (t := 3) (by omega) (by omega)) ?_
            refine a_iconst X (v := nI 2) d_Bw_listEnds_110 (by decide) ?_
            refine a_iload_n X 2 d_Bw_listEnds_111 rfl rfl ?_
            refine a_imul X d_Bw_listEnds_112 ?_
            refine ab_topi (pk_mul _ _) ?_
            refine a_iconst X (v := nI 1) d_Bw_listEnds_113 (by decide) ?_
            refine a_iadd X d_Bw_listEnds_114 ?_
            refine ab_topi (nI_add _ _) ?_
            refine a_ior X d_Bw_listEnds_115 ?_
            refine ab_topi (sh_or (by omega)) ?_
            refine a_istore X d_Bw_listEnds_116 (by decide) ?_
            refine a_incN X d_Bw_listEnds_118 rfl (by decide) ?_
            refine a_goto X 20 d_Bw_listEnds_121 (by decide) ?_
            refine ab_sub [(0, .ref 92), (1, .int (nI p)), (2, .int (nI st)), (3, .ref (93 + 3 * (p * 4 + st + 1) + 1)), (4, .int (nI (tolR st (e + 1)))), (5, .int (nI ((e + 1) + 1)))] rfl ?_
            exact ih (e + 1) L1 (by omega) (by omega) (by omega) hM1
          ·
            refine a_pop X d_Bw_listEnds_88 rfl ?_
            refine a_goto X 106 d_Bw_listEnds_89 (by decide) ?_
            have hM1 := e6 pp L1 hps hp10 hof
            refine ab_hp (show _ = hc r s w c (va_up b.1 (p * 4 + st + 1) L1, b.2) d k t ++ Z by dsimp only; rw [bx_uu]) ?_
            refine a_iload X d_Bw_listEnds_106 rfl ?_
            refine a_iconst X (v := nI 3) d_Bw_listEnds_108 (by decide) ?_
            refine a_ishl X d_Bw_listEnds_109 ?_
            refine ab_topi (sh_l (t := 3) (by omega) (by omega)) ?_
            refine a_iconst X (v := nI 2) d_Bw_listEnds_110 (by decide) ?_
            refine a_iload_n X 2 d_Bw_listEnds_111 rfl rfl ?_
            refine a_imul X d_Bw_listEnds_112 ?_
            refine ab_topi (pk_mul _ _) ?_
            refine a_iconst X (v := nI 1) d_Bw_listEnds_113 (by decide) ?_
            refine a_iadd X d_Bw_listEnds_114 ?_
            refine ab_topi (nI_add _ _) ?_
            refine a_ior X d_Bw_listEnds_115 ?_
            refine ab_topi (sh_or (by omega)) ?_
            refine a_istore X d_Bw_listEnds_116 (by decide) ?_
            refine a_incN X d_Bw_listEnds_118 rfl (by decide) ?_
            refine a_goto X 20 d_Bw_listEnds_121 (by decide) ?_
            refine ab_sub [(0, .ref 92), (1, .int (nI p)), (2, .int (nI st)), (3, .ref (93 + 3 * (p * 4 + st + 1) + 1)), (4, .int (nI (tolR st (e + 1)))), (5, .int (nI ((e + 1) + 1)))] rfl ?_
            exact ih (e + 1) L1 (by omega) (by omega) (by omega) hM1
