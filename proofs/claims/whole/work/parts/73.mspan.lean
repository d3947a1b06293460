def vT (f : Nat → Nat) : hG := fun kk l => f (24 * (l / 6) + 4 * (l % 6) + kk)
theorem vT_at {f : Nat → Nat} {kk a b : Nat} (hb : b < 6) : vT f kk (a * 6 + b) = f (24 * a + 4 * b + kk) := by
  show f (24 * ((a * 6 + b) / 6) + 4 * ((a * 6 + b) % 6) + kk) = _
  rw [show (a * 6 + b) / 6 = a by omega, show (a * 6 + b) % 6 = b by omega]
theorem vu_self {f : Nat → Nat} {i x : Nat} : va_up f i x i = x := by
  show (if i = i then x else f i) = x
  rw [if_pos rfl]
theorem vu_ne {f : Nat → Nat} {i j x : Nat} (h : j ≠ i) : va_up f i x j = f j := by
  show (if j = i then x else f j) = f j
  rw [if_neg h]
theorem vu_vu (f : Nat → Nat) (i x y : Nat) : va_up (va_up f i x) i y = va_up f i y := by
  funext j
  show (if j = i then y else if j = i then x else f j) = if j = i then y else f j
  split <;> rfl
theorem maxR_s (f : Nat → Nat) (x y : Nat) : maxR f x 0 (y + 1) = max (maxR f x 0 y) (f y) := by
  show max _ (f (0 + y)) = _
  rw [Nat.zero_add]
theorem va3 {f1 f2 f3 : Nat → Nat} {to s s' c c' b b' : Nat} (h1 : s = s') (h2 : c = c') (h3 : b = b') : ((va_up f1 to s, va_up f2 to c, va_up f3 to b) : hF) = (va_up f1 to s', va_up f2 to c', va_up f3 to b') := by rw [h1, h2, h3]
theorem va4 {f1 f2 f3 : Nat → Nat} {to s s' c c' b b' s0 c0 b0 : Nat} (h1 : s = s') (h2 : c = c') (h3 : b = b') : ((va_up (va_up f1 to s0) to s, va_up (va_up f2 to c0) to c, va_up (va_up f3 to b0) to b) : hF) = (va_up f1 to s', va_up f2 to c', va_up f3 to b') := by rw [h1, h2, h3, vu_vu, vu_vu, vu_vu]
set_option maxHeartbeats 4000000 in
set_option maxRecDepth 20000 in
theorem c_Mo_fsp {E : ab_E} {l : Launch} {r : hR} {s : hS} {w c : hW} {b : hB} {d : hD} {k : hK} {t : hT} {ms mk : hA} {mp : hP} {mw : Nat → Int32} {mc : hC} {md : Nat × (Nat → Int32)} {mt : hF} {me : hE} {a b1 kd : Nat} (hab : a ≤ b1) (hb6 : b1 < 6) (hkd : kd < 4) (hkq : mk.1 ≤ 4) (hru : ∀ i, mk.2.1 i ≤ 4) (hle : ∀ i, mk.2.2 i ≤ 4) (hsg : ∀ p, p < 6 → mp.2.1 p = -1 ∨ ∃ z, z < 4 ∧ mp.2.1 p = nI z) (hbb : ∀ y x1 x2, y < b1 - a → x1 < mk.1 → x2 < mk.1 → (tS (vK mk).1 (vT mt.2.2) kd (a * 6 + (a + y)) ((a + 1 + y) * 6 + b1)) x1 x2 < 2 ^ 63) : ab_Con E l y_Mo_findSpan b_Mo_findSpan 14 none 1 24 [.ref 204, .int (nI a), .int (nI b1), .int (nI kd)] (hc r s w c b d k t ++ hm ms mk mp mw mc md mt me) 0 0 (fun v h1 => v = none ∧ h1 = hc r s w c b d k t ++ hm ms mk mp mw mc md (va_up mt.1 (24 * a + 4 * b1 + kd) (fS (vK mk) (vT mt.1) (lfR (vK mk) (vR mp) kd a b1) kd a b1 (b1 - a)), va_up mt.2.1 (24 * a + 4 * b1 + kd) (fC (vK mk) (vT mt.2.1) (lfR (vK mk) (vR mp) kd a b1) kd a b1 (b1 - a)), va_up mt.2.2 (24 * a + 4 * b1 + kd) (fB (vK mk) (vT mt.2.2) (lfR (vK mk) (vR mp) kd a b1) kd a b1 (b1 - a))) me) := by
  refine ab_con (own := "HiddenRowsModel") (ini := false) (by decide) (fun h => by cases h) rfl (Nat.le_of_ble_eq_true rfl) ?_
  intro G m X
  show ab_R E G m 14 0 0 0 [(0, .ref 204), (1, .int (nI a)), (2, .int (nI b1)), (3, .int (nI kd))] [] (hc r s w c b d k t ++ hm ms mk mp mw mc md mt me)
  refine a_iload_n X 1 d_Mo_findSpan_0 rfl rfl ?_
  refine a_iload_n X 2 d_Mo_findSpan_1 rfl rfl ?_
  refine a_iload_n X 3 d_Mo_findSpan_2 rfl rfl ?_
  refine a_callS X (As := [.int (nI _), .int (nI _), .int (nI _)]) fb_Mo_at lk_Mo_163 sm_Mo_at (c_Mo_at) rfl rfl (Nat.le_of_ble_eq_true rfl) (by decide) (by decide) (Nat.le_refl _) (Nat.le_refl _) d_Mo_findSpan_3 (fun v h1 hp => ?_)
  obtain ⟨rfl, rfl⟩ := hp
  refine a_istore X d_Mo_findSpan_6 (by decide) ?_
  refine a_iload_n X 1 d_Mo_findSpan_8 rfl rfl ?_
  refine a_iload_n X 2 d_Mo_findSpan_9 rfl rfl ?_
  refine a_icmp_neN X 65 (by omega) (by omega) d_Mo_findSpan_10 (by decide) (fun c10 => ?_) (fun c10 => ?_)
  ·
    have hlf : (lfR (vK mk) (vR mp) kd a b1) = 0 := by unfold lfR; rw [if_neg c10]
    refine a_aload_n X 0 d_Mo_findSpan_65 rfl rfl ?_
    refine a_get X ff_Mo_50 d_Mo_findSpan_66 mq_203 rfl ?_
    refine a_iload X d_Mo_findSpan_69 rfl ?_
    refine a_lconst X (v := lN 0) d_Mo_findSpan_71 (by decide) ?_
    refine a_last X d_Mo_findSpan_72 mq_217 rfl (ab_ix_nI (by omega) (by decide)) ?_
    refine ab_hp ma_sums ?_
    refine a_aload_n X 0 d_Mo_findSpan_73 rfl rfl ?_
    refine a_get X ff_Mo_53 d_Mo_findSpan_74 mq_203 rfl ?_
    refine a_iload X d_Mo_findSpan_77 rfl ?_
    refine a_lconst X (v := lN 0) d_Mo_findSpan_79 (by decide) ?_
    refine a_last X d_Mo_findSpan_80 mq_218 rfl (ab_ix_nI (by omega) (by decide)) ?_
    refine ab_hp ma_counts ?_
    refine a_aload_n X 0 d_Mo_findSpan_81 rfl rfl ?_
    refine a_get X ff_Mo_56 d_Mo_findSpan_82 mq_203 rfl ?_
    refine a_iload X d_Mo_findSpan_85 rfl ?_
    refine a_lconst X (v := lN 0) d_Mo_findSpan_87 (by decide) ?_
    refine a_last X d_Mo_findSpan_88 mq_219 rfl (ab_ix_nI (by omega) (by decide)) ?_
    refine ab_hp ma_bests ?_
    refine a_iload_n X 1 d_Mo_findSpan_89 rfl rfl ?_
    refine a_iconst X (v := nI 1) d_Mo_findSpan_90 (by decide) ?_
    refine a_iadd X d_Mo_findSpan_91 ?_
    refine ab_topi (nI_add _ _) ?_
    refine a_istore X d_Mo_findSpan_92 (by decide) ?_
    refine ab_sub [(0, .ref 204), (1, .int (nI a)), (2, .int (nI b1)), (3, .int (nI kd)), (4, .int (nI (24 * a + 4 * b1 + kd))), (5, .int (nI (a + 1 + 0)))] rfl ?_
    refine ab_hp (show _ = hc r s w c b d k t ++ hm ms mk mp mw mc md (va_up mt.1 (24 * a + 4 * b1 + kd) (fS (vK mk) (vT mt.1) (lfR (vK mk) (vR mp) kd a b1) kd a b1 0), va_up mt.2.1 (24 * a + 4 * b1 + kd) (fC (vK mk) (vT mt.2.1) (lfR (vK mk) (vR mp) kd a b1) kd a b1 0), va_up mt.2.2 (24 * a + 4 * b1 + kd) (fB (vK mk) (vT mt.2.2) (lfR (vK mk) (vR mp) kd a b1) kd a b1 0)) me by
      rw [hlf]
      rfl) ?_
    suffices LP : ∀ (mm e : Nat), e ≤ b1 - a → b1 - a - e < mm → ab_R E G m 14 0 0 94 [(0, .ref 204), (1, .int (nI a)), (2, .int (nI b1)), (3, .int (nI kd)), (4, .int (nI (24 * a + 4 * b1 + kd))), (5, .int (nI (a + 1 + e)))] [] (hc r s w c b d k t ++ hm ms mk mp mw mc md (va_up mt.1 (24 * a + 4 * b1 + kd) (fS (vK mk) (vT mt.1) (lfR (vK mk) (vR mp) kd a b1) kd a b1 e), va_up mt.2.1 (24 * a + 4 * b1 + kd) (fC (vK mk) (vT mt.2.1) (lfR (vK mk) (vR mp) kd a b1) kd a b1 e), va_up mt.2.2 (24 * a + 4 * b1 + kd) (fB (vK mk) (vT mt.2.2) (lfR (vK mk) (vR mp) kd a b1) kd a b1 e)) me) from LP (b1 - a + 1) 0 (by omega) (by omega)
    intro mm
    induction mm with
    | zero => intro e h1 h2; exfalso; omega
    | succ mm ih =>
      intro e h1 h2
      refine a_iload X d_Mo_findSpan_94 rfl ?_
      refine a_iload_n X 2 d_Mo_findSpan_96 rfl rfl ?_
      refine a_icmp_gtN X 296 (by omega) (by omega) d_Mo_findSpan_97 (by decide) (fun c97 => ?_) (fun c97 => ?_)
      ·
        exact a_vret X d_Mo_findSpan_296 (Nat.le_refl _) (Nat.le_refl _) ⟨rfl, by rw [show e = b1 - a by omega]⟩
      ·
        refine a_iconst X (v := nI 0) d_Mo_findSpan_100 (by decide) ?_
        refine a_istore X d_Mo_findSpan_101 (by decide) ?_
        refine ab_sub [(0, .ref 204), (1, .int (nI a)), (2, .int (nI b1)), (3, .int (nI kd)), (4, .int (nI (24 * a + 4 * b1 + kd))), (5, .int (nI (a + 1 + e))), (6, .int (nI 0))] rfl ?_
        suffices LQ : ∀ (m2 x : Nat), x ≤ mk.1 → mk.1 - x < m2 → ab_R E G m 14 0 0 103 [(0, .ref 204), (1, .int (nI a)), (2, .int (nI b1)), (3, .int (nI kd)), (4, .int (nI (24 * a + 4 * b1 + kd))), (5, .int (nI (a + 1 + e))), (6, .int (nI x))] [] (hc r s w c b d k t ++ hm ms mk mp mw mc md (va_up mt.1 (24 * a + 4 * b1 + kd) ((fS (vK mk) (vT mt.1) (lfR (vK mk) (vR mp) kd a b1) kd a b1 e + sumR (fun b => sumR ((tS (vK mk).1 (vT mt.1) kd (a * 6 + (a + e)) ((a + 1 + e) * 6 + b1)) b) 0 mk.1) 0 x)), va_up mt.2.1 (24 * a + 4 * b1 + kd) ((fC (vK mk) (vT mt.2.1) (lfR (vK mk) (vR mp) kd a b1) kd a b1 e + sumR (fun b => sumR ((tC (vK mk).1 (vT mt.2.1) kd (a * 6 + (a + e)) ((a + 1 + e) * 6 + b1)) b) 0 mk.1) 0 x)), va_up mt.2.2 (24 * a + 4 * b1 + kd) ((max2 (tS (vK mk).1 (vT mt.2.2) kd (a * 6 + (a + e)) ((a + 1 + e) * 6 + b1)) (fB (vK mk) (vT mt.2.2) (lfR (vK mk) (vR mp) kd a b1) kd a b1 e) mk.1 x))) me) from LQ (mk.1 + 1) 0 (by omega) (by omega)
        intro m2
        induction m2 with
        | zero => intro x h3 h4; exfalso; omega
        | succ m2 ih2 =>
          intro x h3 h4
          refine a_iload X d_Mo_findSpan_103 rfl ?_
          refine a_aload_n X 0 d_Mo_findSpan_105 rfl rfl ?_
          refine a_get X ff_Mo_79 d_Mo_findSpan_106 mq_203 rfl ?_
          refine a_icmp_geN X 290 (by omega) (by omega) d_Mo_findSpan_109 (by decide) (fun c109 => ?_) (fun c109 => ?_)
          ·
            obtain rfl : x = mk.1 := by omega
            refine a_incN X d_Mo_findSpan_290 rfl (by decide) ?_
            refine a_goto X 94 d_Mo_findSpan_293 (by decide) ?_
            refine ab_sub [(0, .ref 204), (1, .int (nI a)), (2, .int (nI b1)), (3, .int (nI kd)), (4, .int (nI (24 * a + 4 * b1 + kd))), (5, .int (nI (a + 1 + (e + 1))))] rfl ?_
            refine ab_hp (show _ = hc r s w c b d k t ++ hm ms mk mp mw mc md (va_up mt.1 (24 * a + 4 * b1 + kd) (fS (vK mk) (vT mt.1) (lfR (vK mk) (vR mp) kd a b1) kd a b1 (e + 1)), va_up mt.2.1 (24 * a + 4 * b1 + kd) (fC (vK mk) (vT mt.2.1) (lfR (vK mk) (vR mp) kd a b1) kd a b1 (e + 1)), va_up mt.2.2 (24 * a + 4 * b1 + kd) (fB (vK mk) (vT mt.2.2) (lfR (vK mk) (vR mp) kd a b1) kd a b1 (e + 1))) me by
              rw [fS_succ, fC_succ, fB_succ]
              rfl) ?_
            exact ih (e + 1) (by omega) (by omega)
          ·
            refine a_iconst X (v := nI 0) d_Mo_findSpan_112 (by decide) ?_
            refine a_istore X d_Mo_findSpan_113 (by decide) ?_
            refine ab_sub [(0, .ref 204), (1, .int (nI a)), (2, .int (nI b1)), (3, .int (nI kd)), (4, .int (nI (24 * a + 4 * b1 + kd))), (5, .int (nI (a + 1 + e))), (6, .int (nI x)), (7, .int (nI 0))] rfl ?_
            suffices LQ2 : ∀ (m3 y : Nat), y ≤ mk.1 → mk.1 - y < m3 → ab_R E G m 14 0 0 115 [(0, .ref 204), (1, .int (nI a)), (2, .int (nI b1)), (3, .int (nI kd)), (4, .int (nI (24 * a + 4 * b1 + kd))), (5, .int (nI (a + 1 + e))), (6, .int (nI x)), (7, .int (nI y))] [] (hc r s w c b d k t ++ hm ms mk mp mw mc md (va_up mt.1 (24 * a + 4 * b1 + kd) (((fS (vK mk) (vT mt.1) (lfR (vK mk) (vR mp) kd a b1) kd a b1 e + sumR (fun b => sumR ((tS (vK mk).1 (vT mt.1) kd (a * 6 + (a + e)) ((a + 1 + e) * 6 + b1)) b) 0 mk.1) 0 x) + sumR ((tS (vK mk).1 (vT mt.1) kd (a * 6 + (a + e)) ((a + 1 + e) * 6 + b1)) x) 0 y)), va_up mt.2.1 (24 * a + 4 * b1 + kd) (((fC (vK mk) (vT mt.2.1) (lfR (vK mk) (vR mp) kd a b1) kd a b1 e + sumR (fun b => sumR ((tC (vK mk).1 (vT mt.2.1) kd (a * 6 + (a + e)) ((a + 1 + e) * 6 + b1)) b) 0 mk.1) 0 x) + sumR ((tC (vK mk).1 (vT mt.2.1) kd (a * 6 + (a + e)) ((a + 1 + e) * 6 + b1)) x) 0 y)), va_up mt.2.2 (24 * a + 4 * b1 + kd) ((maxR ((tS (vK mk).1 (vT mt.2.2) kd (a * 6 + (a + e)) ((a + 1 + e) * 6 + b1)) x) (max2 (tS (vK mk).1 (vT mt.2.2) kd (a * 6 + (a + e)) ((a + 1 + e) * 6 + b1)) (fB (vK mk) (vT mt.2.2) (lfR (vK mk) (vR mp) kd a b1) kd a b1 e) mk.1 x) 0 y))) me) from LQ2 (mk.1 + 1) 0 (by omega) (by omega)
            intro m3
            induction m3 with
            | zero => intro y h5 h6; exfalso; omega
            | succ m3 ih3 =>
              intro y h5 h6
              refine a_iload X d_Mo_findSpan_115 rfl ?_
              refine a_aload_n X 0 d_Mo_findSpan_117 rfl rfl ?_
              refine a_get X ff_Mo_79 d_Mo_findSpan_118 mq_203 rfl ?_
              refine a_icmp_geN X 284 (by omega) (by omega) d_Mo_findSpan_121 (by decide) (fun c121 => ?_) (fun c121 => ?_)
              ·
                obtain rfl : y = mk.1 := by omega
                refine a_incN X d_Mo_findSpan_284 rfl (by decide) ?_
                refine a_goto X 103 d_Mo_findSpan_287 (by decide) ?_
                refine ab_sub [(0, .ref 204), (1, .int (nI a)), (2, .int (nI b1)), (3, .int (nI kd)), (4, .int (nI (24 * a + 4 * b1 + kd))), (5, .int (nI (a + 1 + e))), (6, .int (nI (x + 1)))] rfl ?_
                refine ab_hp (congrArg (fun q : hF => hc r s w c b d k t ++ hm ms mk mp mw mc md q me) (va3 (show ((fS (vK mk) (vT mt.1) (lfR (vK mk) (vR mp) kd a b1) kd a b1 e + sumR (fun b => sumR ((tS (vK mk).1 (vT mt.1) kd (a * 6 + (a + e)) ((a + 1 + e) * 6 + b1)) b) 0 mk.1) 0 x) + sumR ((tS (vK mk).1 (vT mt.1) kd (a * 6 + (a + e)) ((a + 1 + e) * 6 + b1)) x) 0 mk.1) = (fS (vK mk) (vT mt.1) (lfR (vK mk) (vR mp) kd a b1) kd a b1 e + sumR (fun b => sumR ((tS (vK mk).1 (vT mt.1) kd (a * 6 + (a + e)) ((a + 1 + e) * 6 + b1)) b) 0 mk.1) 0 (x + 1)) by rw [sumR_s]; exact Nat.add_assoc _ _ _) (show ((fC (vK mk) (vT mt.2.1) (lfR (vK mk) (vR mp) kd a b1) kd a b1 e + sumR (fun b => sumR ((tC (vK mk).1 (vT mt.2.1) kd (a * 6 + (a + e)) ((a + 1 + e) * 6 + b1)) b) 0 mk.1) 0 x) + sumR ((tC (vK mk).1 (vT mt.2.1) kd (a * 6 + (a + e)) ((a + 1 + e) * 6 + b1)) x) 0 mk.1) = (fC (vK mk) (vT mt.2.1) (lfR (vK mk) (vR mp) kd a b1) kd a b1 e + sumR (fun b => sumR ((tC (vK mk).1 (vT mt.2.1) kd (a * 6 + (a + e)) ((a + 1 + e) * 6 + b1)) b) 0 mk.1) 0 (x + 1)) by rw [sumR_s]; exact Nat.add_assoc _ _ _) (show (maxR ((tS (vK mk).1 (vT mt.2.2) kd (a * 6 + (a + e)) ((a + 1 + e) * 6 + b1)) x) (max2 (tS (vK mk).1 (vT mt.2.2) kd (a * 6 + (a + e)) ((a + 1 + e) * 6 + b1)) (fB (vK mk) (vT mt.2.2) (lfR (vK mk) (vR mp) kd a b1) kd a b1 e) mk.1 x) 0 mk.1) = (max2 (tS (vK mk).1 (vT mt.2.2) kd (a * 6 + (a + e)) ((a + 1 + e) * 6 + b1)) (fB (vK mk) (vT mt.2.2) (lfR (vK mk) (vR mp) kd a b1) kd a b1 e) mk.1 (x + 1)) from rfl))) ?_
                exact ih2 (x + 1) (by omega) (by omega)
              ·
                refine a_aload_n X 0 d_Mo_findSpan_124 rfl rfl ?_
                refine a_get X ff_Mo_16 d_Mo_findSpan_125 mq_203 rfl ?_
                refine a_bipush X (v := nI 16) d_Mo_findSpan_128 (by decide) ?_
                refine a_iload_n X 3 d_Mo_findSpan_130 rfl rfl ?_
                refine a_imul X d_Mo_findSpan_131 ?_
                refine ab_topi (pk_mul _ _) ?_
                refine a_iconst X (v := nI 4) d_Mo_findSpan_132 (by decide) ?_
                refine a_iload X d_Mo_findSpan_133 rfl ?_
                refine a_imul X d_Mo_findSpan_135 ?_
                refine ab_topi (pk_mul _ _) ?_
                refine a_iadd X d_Mo_findSpan_136 ?_
                refine ab_topi (nI_add _ _) ?_
                refine a_iload X d_Mo_findSpan_137 rfl ?_
                refine a_iadd X d_Mo_findSpan_139 ?_
                refine ab_topi (nI_add _ _) ?_
                refine a_iald X d_Mo_findSpan_140 mq_206 rfl (ab_ix_nI (by omega) (by decide)) ?_
                refine a_i2l X d_Mo_findSpan_141 ?_
                refine ab_topl (nI_l (by have := hru (16 * kd + 4 * x + y); omega)) ?_
                refine a_lstore X d_Mo_findSpan_142 (by decide) ?_
                refine a_lload X d_Mo_findSpan_144 rfl ?_
                refine a_lconst X (v := lN 0) d_Mo_findSpan_146 (by decide) ?_
                refine a_lc_le X 278 (by have := hru (16 * kd + 4 * x + y); omega) (by omega) d_Mo_findSpan_147 d_Mo_findSpan_148 (by decide) (fun c147 => ?_) (fun c147 => ?_)
                ·
                  have eS : (tS (vK mk).1 (vT mt.1) kd (a * 6 + (a + e)) ((a + 1 + e) * 6 + b1)) x y = mk.2.1 (16 * kd + 4 * x + y) * mt.1 (24 * a + 4 * (a + e) + x) * mt.1 (24 * (a + 1 + e) + 4 * b1 + y) := by unfold tS; rw [vT_at (by omega), vT_at (by omega)]; show mk.2.1 (16 * kd + (x * 4 + y)) * _ * _ = _; rw [show 16 * kd + (x * 4 + y) = 16 * kd + 4 * x + y by omega]
                  have eB : (tS (vK mk).1 (vT mt.2.2) kd (a * 6 + (a + e)) ((a + 1 + e) * 6 + b1)) x y = mk.2.1 (16 * kd + 4 * x + y) * mt.2.2 (24 * a + 4 * (a + e) + x) * mt.2.2 (24 * (a + 1 + e) + 4 * b1 + y) := by unfold tS; rw [vT_at (by omega), vT_at (by omega)]; show mk.2.1 (16 * kd + (x * 4 + y)) * _ * _ = _; rw [show 16 * kd + (x * 4 + y) = 16 * kd + 4 * x + y by omega]
                  have eC : (tC (vK mk).1 (vT mt.2.1) kd (a * 6 + (a + e)) ((a + 1 + e) * 6 + b1)) x y = if 0 < mk.2.1 (16 * kd + 4 * x + y) then mt.2.1 (24 * a + 4 * (a + e) + x) * mt.2.1 (24 * (a + 1 + e) + 4 * b1 + y) else 0 := by unfold tC; rw [vT_at (by omega), vT_at (by omega)]; show (if 0 < mk.2.1 (16 * kd + (x * 4 + y)) then _ else 0) = _; rw [show 16 * kd + (x * 4 + y) = 16 * kd + 4 * x + y by omega]
                  have hW0 : mk.2.1 (16 * kd + 4 * x + y) = 0 := by omega
                  rw [hW0, Nat.zero_mul, Nat.zero_mul] at eS eB
                  rw [if_neg (by omega)] at eC
                  refine ab_hp (congrArg (fun q : hF => hc r s w c b d k t ++ hm ms mk mp mw mc md q me) (va3 (show ((fS (vK mk) (vT mt.1) (lfR (vK mk) (vR mp) kd a b1) kd a b1 e + sumR (fun b => sumR ((tS (vK mk).1 (vT mt.1) kd (a * 6 + (a + e)) ((a + 1 + e) * 6 + b1)) b) 0 mk.1) 0 x) + sumR ((tS (vK mk).1 (vT mt.1) kd (a * 6 + (a + e)) ((a + 1 + e) * 6 + b1)) x) 0 y) = ((fS (vK mk) (vT mt.1) (lfR (vK mk) (vR mp) kd a b1) kd a b1 e + sumR (fun b => sumR ((tS (vK mk).1 (vT mt.1) kd (a * 6 + (a + e)) ((a + 1 + e) * 6 + b1)) b) 0 mk.1) 0 x) + sumR ((tS (vK mk).1 (vT mt.1) kd (a * 6 + (a + e)) ((a + 1 + e) * 6 + b1)) x) 0 (y + 1)) by rw [sumR_s, eS]; rfl) (show ((fC (vK mk) (vT mt.2.1) (lfR (vK mk) (vR mp) kd a b1) kd a b1 e + sumR (fun b => sumR ((tC (vK mk).1 (vT mt.2.1) kd (a * 6 + (a + e)) ((a + 1 + e) * 6 + b1)) b) 0 mk.1) 0 x) + sumR ((tC (vK mk).1 (vT mt.2.1) kd (a * 6 + (a + e)) ((a + 1 + e) * 6 + b1)) x) 0 y) = ((fC (vK mk) (vT mt.2.1) (lfR (vK mk) (vR mp) kd a b1) kd a b1 e + sumR (fun b => sumR ((tC (vK mk).1 (vT mt.2.1) kd (a * 6 + (a + e)) ((a + 1 + e) * 6 + b1)) b) 0 mk.1) 0 x) + sumR ((tC (vK mk).1 (vT mt.2.1) kd (a * 6 + (a + e)) ((a + 1 + e) * 6 + b1)) x) 0 (y + 1)) by rw [sumR_s, eC]; rfl) (show (maxR ((tS (vK mk).1 (vT mt.2.2) kd (a * 6 + (a + e)) ((a + 1 + e) * 6 + b1)) x) (max2 (tS (vK mk).1 (vT mt.2.2) kd (a * 6 + (a + e)) ((a + 1 + e) * 6 + b1)) (fB (vK mk) (vT mt.2.2) (lfR (vK mk) (vR mp) kd a b1) kd a b1 e) mk.1 x) 0 y) = (maxR ((tS (vK mk).1 (vT mt.2.2) kd (a * 6 + (a + e)) ((a + 1 + e) * 6 + b1)) x) (max2 (tS (vK mk).1 (vT mt.2.2) kd (a * 6 + (a + e)) ((a + 1 + e) * 6 + b1)) (fB (vK mk) (vT mt.2.2) (lfR (vK mk) (vR mp) kd a b1) kd a b1 e) mk.1 x) 0 (y + 1)) by rw [maxR_s, eB, Nat.max_zero]))) ?_
                  refine a_incN X d_Mo_findSpan_278 rfl (by decide) ?_
                  refine a_goto X 115 d_Mo_findSpan_281 (by decide) ?_
                  refine ab_sub [(0, .ref 204), (1, .int (nI a)), (2, .int (nI b1)), (3, .int (nI kd)), (4, .int (nI (24 * a + 4 * b1 + kd))), (5, .int (nI (a + 1 + e))), (6, .int (nI x)), (7, .int (nI (y + 1)))] rfl ?_
                  exact ih3 (y + 1) (by omega) (by omega)
                ·
                  have eS : (tS (vK mk).1 (vT mt.1) kd (a * 6 + (a + e)) ((a + 1 + e) * 6 + b1)) x y = mk.2.1 (16 * kd + 4 * x + y) * mt.1 (24 * a + 4 * (a + e) + x) * mt.1 (24 * (a + 1 + e) + 4 * b1 + y) := by unfold tS; rw [vT_at (by omega), vT_at (by omega)]; show mk.2.1 (16 * kd + (x * 4 + y)) * _ * _ = _; rw [show 16 * kd + (x * 4 + y) = 16 * kd + 4 * x + y by omega]
                  have eB : (tS (vK mk).1 (vT mt.2.2) kd (a * 6 + (a + e)) ((a + 1 + e) * 6 + b1)) x y = mk.2.1 (16 * kd + 4 * x + y) * mt.2.2 (24 * a + 4 * (a + e) + x) * mt.2.2 (24 * (a + 1 + e) + 4 * b1 + y) := by unfold tS; rw [vT_at (by omega), vT_at (by omega)]; show mk.2.1 (16 * kd + (x * 4 + y)) * _ * _ = _; rw [show 16 * kd + (x * 4 + y) = 16 * kd + 4 * x + y by omega]
                  have eC : (tC (vK mk).1 (vT mt.2.1) kd (a * 6 + (a + e)) ((a + 1 + e) * 6 + b1)) x y = if 0 < mk.2.1 (16 * kd + 4 * x + y) then mt.2.1 (24 * a + 4 * (a + e) + x) * mt.2.1 (24 * (a + 1 + e) + 4 * b1 + y) else 0 := by unfold tC; rw [vT_at (by omega), vT_at (by omega)]; show (if 0 < mk.2.1 (16 * kd + (x * 4 + y)) then _ else 0) = _; rw [show 16 * kd + (x * 4 + y) = 16 * kd + 4 * x + y by omega]
                  have hb1 : (maxR ((tS (vK mk).1 (vT mt.2.2) kd (a * 6 + (a + e)) ((a + 1 + e) * 6 + b1)) x) (max2 (tS (vK mk).1 (vT mt.2.2) kd (a * 6 + (a + e)) ((a + 1 + e) * 6 + b1)) (fB (vK mk) (vT mt.2.2) (lfR (vK mk) (vR mp) kd a b1) kd a b1 e) mk.1 x) 0 y) < 2 ^ 63 := maxR_lt (max2_lt (mxF_lt (by rw [hlf]; omega) (fun y a1 a2 hy h1 h2 => hbb y a1 a2 (by omega) h1 h2)) (fun a1 a2 h1 h2 => hbb e a1 a2 (by omega) (by omega) h2)) (fun a1 h1 => by rw [Nat.zero_add]; exact hbb e x a1 (by omega) (by omega) (by omega))
                  have hb2 := hbb e x y (by omega) (by omega) (by omega)
                  rw [eB] at hb2
                  refine a_iload_n X 1 d_Mo_findSpan_151 rfl rfl ?_
                  refine a_iload X d_Mo_findSpan_152 rfl ?_
                  refine a_iconst X (v := nI 1) d_Mo_findSpan_154 (by decide) ?_
                  refine a_isub X d_Mo_findSpan_155 ?_
                  refine ab_topi (pk_sub (by omega)) ?_
                  refine ab_topi (congrArg nI (show a + 1 + e - 1 = a + e by omega)) ?_
                  refine a_iload X d_Mo_findSpan_156 rfl ?_
                  refine a_callS X (As := [.int (nI _), .int (nI _), .int (nI _)]) fb_Mo_at lk_Mo_163 sm_Mo_at (c_Mo_at) rfl rfl (Nat.le_of_ble_eq_true rfl) (by decide) (by decide) (Nat.le_refl _) (Nat.le_refl _) d_Mo_findSpan_158 (fun v h1 hp => ?_)
                  obtain ⟨rfl, rfl⟩ := hp
                  refine a_istore X d_Mo_findSpan_161 (by decide) ?_
                  refine a_iload X d_Mo_findSpan_163 rfl ?_
                  refine a_iload_n X 2 d_Mo_findSpan_165 rfl rfl ?_
                  refine a_iload X d_Mo_findSpan_166 rfl ?_
                  refine a_callS X (As := [.int (nI _), .int (nI _), .int (nI _)]) fb_Mo_at lk_Mo_163 sm_Mo_at (c_Mo_at) rfl rfl (Nat.le_of_ble_eq_true rfl) (by decide) (by decide) (Nat.le_refl _) (Nat.le_refl _) d_Mo_findSpan_168 (fun v h1 hp => ?_)
                  obtain ⟨rfl, rfl⟩ := hp
                  refine a_istore X d_Mo_findSpan_171 (by decide) ?_
                  refine a_aload_n X 0 d_Mo_findSpan_173 rfl rfl ?_
                  refine a_get X ff_Mo_50 d_Mo_findSpan_174 mq_203 rfl ?_
                  refine a_iload X d_Mo_findSpan_177 rfl ?_
                  refine a_dup2 X d_Mo_findSpan_179 rfl rfl ?_
                  refine a_lald X d_Mo_findSpan_180 mq_217 rfl (ab_ix_nI (by omega) (by decide)) ?_
                  refine ab_topl (congrArg lN vu_self) ?_
                  refine a_lload X d_Mo_findSpan_181 rfl ?_
                  refine a_aload_n X 0 d_Mo_findSpan_183 rfl rfl ?_
                  refine a_get X ff_Mo_50 d_Mo_findSpan_184 mq_203 rfl ?_
                  refine a_iload X d_Mo_findSpan_187 rfl ?_
                  refine a_lald X d_Mo_findSpan_189 mq_217 rfl (ab_ix_nI (by omega) (by decide)) ?_
                  refine ab_topl (congrArg lN (vu_ne (by omega))) ?_
                  refine a_lmul X d_Mo_findSpan_190 ?_
                  refine ab_topl (lN_mul _ _) ?_
                  refine a_aload_n X 0 d_Mo_findSpan_191 rfl rfl ?_
                  refine a_get X ff_Mo_50 d_Mo_findSpan_192 mq_203 rfl ?_
                  refine a_iload X d_Mo_findSpan_195 rfl ?_
                  refine a_lald X d_Mo_findSpan_197 mq_217 rfl (ab_ix_nI (by omega) (by decide)) ?_
                  refine ab_topl (congrArg lN (vu_ne (by omega))) ?_
                  refine a_lmul X d_Mo_findSpan_198 ?_
                  refine ab_topl (lN_mul _ _) ?_
                  refine a_ladd X d_Mo_findSpan_199 ?_
                  refine ab_topl (lN_add _ _) ?_
                  refine a_last X d_Mo_findSpan_200 mq_217 rfl (ab_ix_nI (by omega) (by decide)) ?_
                  refine ab_hp ma_sums ?_
                  refine a_aload_n X 0 d_Mo_findSpan_201 rfl rfl ?_
                  refine a_get X ff_Mo_53 d_Mo_findSpan_202 mq_203 rfl ?_
                  refine a_iload X d_Mo_findSpan_205 rfl ?_
                  refine a_dup2 X d_Mo_findSpan_207 rfl rfl ?_
                  refine a_lald X d_Mo_findSpan_208 mq_218 rfl (ab_ix_nI (by omega) (by decide)) ?_
                  refine ab_topl (congrArg lN vu_self) ?_
                  refine a_aload_n X 0 d_Mo_findSpan_209 rfl rfl ?_
                  refine a_get X ff_Mo_53 d_Mo_findSpan_210 mq_203 rfl ?_
                  refine a_iload X d_Mo_findSpan_213 rfl ?_
                  refine a_lald X d_Mo_findSpan_215 mq_218 rfl (ab_ix_nI (by omega) (by decide)) ?_
                  refine ab_topl (congrArg lN (vu_ne (by omega))) ?_
                  refine a_aload_n X 0 d_Mo_findSpan_216 rfl rfl ?_
                  refine a_get X ff_Mo_53 d_Mo_findSpan_217 mq_203 rfl ?_
                  refine a_iload X d_Mo_findSpan_220 rfl ?_
                  refine a_lald X d_Mo_findSpan_222 mq_218 rfl (ab_ix_nI (by omega) (by decide)) ?_
                  refine ab_topl (congrArg lN (vu_ne (by omega))) ?_
                  refine a_lmul X d_Mo_findSpan_223 ?_
                  refine ab_topl (lN_mul _ _) ?_
                  refine a_ladd X d_Mo_findSpan_224 ?_
                  refine ab_topl (lN_add _ _) ?_
                  refine a_last X d_Mo_findSpan_225 mq_218 rfl (ab_ix_nI (by omega) (by decide)) ?_
                  refine ab_hp ma_counts ?_
                  refine a_lload X d_Mo_findSpan_226 rfl ?_
                  refine a_aload_n X 0 d_Mo_findSpan_228 rfl rfl ?_
                  refine a_get X ff_Mo_56 d_Mo_findSpan_229 mq_203 rfl ?_
                  refine a_iload X d_Mo_findSpan_232 rfl ?_
                  refine a_lald X d_Mo_findSpan_234 mq_219 rfl (ab_ix_nI (by omega) (by decide)) ?_
                  refine ab_topl (congrArg lN (vu_ne (by omega))) ?_
                  refine a_lmul X d_Mo_findSpan_235 ?_
                  refine ab_topl (lN_mul _ _) ?_
                  refine a_aload_n X 0 d_Mo_findSpan_236 rfl rfl ?_
                  refine a_get X ff_Mo_56 d_Mo_findSpan_237 mq_203 rfl ?_
                  refine a_iload X d_Mo_findSpan_240 rfl ?_
                  refine a_lald X d_Mo_findSpan_242 mq_219 rfl (ab_ix_nI (by omega) (by decide)) ?_
                  refine ab_topl (congrArg lN (vu_ne (by omega))) ?_
                  refine a_lmul X d_Mo_findSpan_243 ?_
                  refine ab_topl (lN_mul _ _) ?_
                  refine a_lstore X d_Mo_findSpan_244 (by decide) ?_
                  refine a_aload_n X 0 d_Mo_findSpan_246 rfl rfl ?_
                  refine a_get X ff_Mo_56 d_Mo_findSpan_247 mq_203 rfl ?_
                  refine a_iload X d_Mo_findSpan_250 rfl ?_
                  refine a_lload X d_Mo_findSpan_252 rfl ?_
                  refine a_aload_n X 0 d_Mo_findSpan_254 rfl rfl ?_
                  refine a_get X ff_Mo_56 d_Mo_findSpan_255 mq_203 rfl ?_
                  refine a_iload X d_Mo_findSpan_258 rfl ?_
                  refine a_lald X d_Mo_findSpan_260 mq_219 rfl (ab_ix_nI (by omega) (by decide)) ?_
                  refine ab_topl (congrArg lN vu_self) ?_
                  refine a_lc_le X 270 hb2 hb1 d_Mo_findSpan_261 d_Mo_findSpan_262 (by decide) (fun c261 => ?_) (fun c261 => ?_)
                  ·
                    refine a_aload_n X 0 d_Mo_findSpan_270 rfl rfl ?_
                    refine a_get X ff_Mo_56 d_Mo_findSpan_271 mq_203 rfl ?_
                    refine a_iload X d_Mo_findSpan_274 rfl ?_
                    refine a_lald X d_Mo_findSpan_276 mq_219 rfl (ab_ix_nI (by omega) (by decide)) ?_
                    refine ab_topl (congrArg lN vu_self) ?_
                    refine a_last X d_Mo_findSpan_277 mq_219 rfl (ab_ix_nI (by omega) (by decide)) ?_
                    refine ab_hp ma_bests ?_
                    rw [if_pos (by omega)] at eC
                    have hS : ((fS (vK mk) (vT mt.1) (lfR (vK mk) (vR mp) kd a b1) kd a b1 e + sumR (fun b => sumR ((tS (vK mk).1 (vT mt.1) kd (a * 6 + (a + e)) ((a + 1 + e) * 6 + b1)) b) 0 mk.1) 0 x) + sumR ((tS (vK mk).1 (vT mt.1) kd (a * 6 + (a + e)) ((a + 1 + e) * 6 + b1)) x) 0 y) + mk.2.1 (16 * kd + 4 * x + y) * mt.1 (24 * a + 4 * (a + e) + x) * mt.1 (24 * (a + 1 + e) + 4 * b1 + y) = ((fS (vK mk) (vT mt.1) (lfR (vK mk) (vR mp) kd a b1) kd a b1 e + sumR (fun b => sumR ((tS (vK mk).1 (vT mt.1) kd (a * 6 + (a + e)) ((a + 1 + e) * 6 + b1)) b) 0 mk.1) 0 x) + sumR ((tS (vK mk).1 (vT mt.1) kd (a * 6 + (a + e)) ((a + 1 + e) * 6 + b1)) x) 0 (y + 1)) := by rw [sumR_s, eS]; exact Nat.add_assoc _ _ _
                    have hC : ((fC (vK mk) (vT mt.2.1) (lfR (vK mk) (vR mp) kd a b1) kd a b1 e + sumR (fun b => sumR ((tC (vK mk).1 (vT mt.2.1) kd (a * 6 + (a + e)) ((a + 1 + e) * 6 + b1)) b) 0 mk.1) 0 x) + sumR ((tC (vK mk).1 (vT mt.2.1) kd (a * 6 + (a + e)) ((a + 1 + e) * 6 + b1)) x) 0 y) + mt.2.1 (24 * a + 4 * (a + e) + x) * mt.2.1 (24 * (a + 1 + e) + 4 * b1 + y) = ((fC (vK mk) (vT mt.2.1) (lfR (vK mk) (vR mp) kd a b1) kd a b1 e + sumR (fun b => sumR ((tC (vK mk).1 (vT mt.2.1) kd (a * 6 + (a + e)) ((a + 1 + e) * 6 + b1)) b) 0 mk.1) 0 x) + sumR ((tC (vK mk).1 (vT mt.2.1) kd (a * 6 + (a + e)) ((a + 1 + e) * 6 + b1)) x) 0 (y + 1)) := by rw [sumR_s, eC]; exact Nat.add_assoc _ _ _
                    refine ab_hp (congrArg (fun q : hF => hc r s w c b d k t ++ hm ms mk mp mw mc md q me) (va4 hS hC (show _ = (maxR ((tS (vK mk).1 (vT mt.2.2) kd (a * 6 + (a + e)) ((a + 1 + e) * 6 + b1)) x) (max2 (tS (vK mk).1 (vT mt.2.2) kd (a * 6 + (a + e)) ((a + 1 + e) * 6 + b1)) (fB (vK mk) (vT mt.2.2) (lfR (vK mk) (vR mp) kd a b1) kd a b1 e) mk.1 x) 0 (y + 1)) by
                      rw [maxR_s, eB]
                      first
                      | rw [Nat.max_eq_left c261]
                      | rw [Nat.max_eq_right (Nat.le_of_lt c261)]))) ?_
                    refine a_incN X d_Mo_findSpan_278 rfl (by decide) ?_
                    refine a_goto X 115 d_Mo_findSpan_281 (by decide) ?_
                    refine ab_sub [(0, .ref 204), (1, .int (nI a)), (2, .int (nI b1)), (3, .int (nI kd)), (4, .int (nI (24 * a + 4 * b1 + kd))), (5, .int (nI (a + 1 + e))), (6, .int (nI x)), (7, .int (nI (y + 1)))] rfl ?_
                    exact ih3 (y + 1) (by omega) (by omega)
                  ·
                    refine a_lload X d_Mo_findSpan_265 rfl ?_
                    refine a_goto X 277 d_Mo_findSpan_267 (by decide) ?_
                    refine a_last X d_Mo_findSpan_277 mq_219 rfl (ab_ix_nI (by omega) (by decide)) ?_
                    refine ab_hp ma_bests ?_
                    rw [if_pos (by omega)] at eC
                    have hS : ((fS (vK mk) (vT mt.1) (lfR (vK mk) (vR mp) kd a b1) kd a b1 e + sumR (fun b => sumR ((tS (vK mk).1 (vT mt.1) kd (a * 6 + (a + e)) ((a + 1 + e) * 6 + b1)) b) 0 mk.1) 0 x) + sumR ((tS (vK mk).1 (vT mt.1) kd (a * 6 + (a + e)) ((a + 1 + e) * 6 + b1)) x) 0 y) + mk.2.1 (16 * kd + 4 * x + y) * mt.1 (24 * a + 4 * (a + e) + x) * mt.1 (24 * (a + 1 + e) + 4 * b1 + y) = ((fS (vK mk) (vT mt.1) (lfR (vK mk) (vR mp) kd a b1) kd a b1 e + sumR (fun b => sumR ((tS (vK mk).1 (vT mt.1) kd (a * 6 + (a + e)) ((a + 1 + e) * 6 + b1)) b) 0 mk.1) 0 x) + sumR ((tS (vK mk).1 (vT mt.1) kd (a * 6 + (a + e)) ((a + 1 + e) * 6 + b1)) x) 0 (y + 1)) := by rw [sumR_s, eS]; exact Nat.add_assoc _ _ _
                    have hC : ((fC (vK mk) (vT mt.2.1) (lfR (vK mk) (vR mp) kd a b1) kd a b1 e + sumR (fun b => sumR ((tC (vK mk).1 (vT mt.2.1) kd (a * 6 + (a + e)) ((a + 1 + e) * 6 + b1)) b) 0 mk.1) 0 x) + sumR ((tC (vK mk).1 (vT mt.2.1) kd (a * 6 + (a + e)) ((a + 1 + e) * 6 + b1)) x) 0 y) + mt.2.1 (24 * a + 4 * (a + e) + x) * mt.2.1 (24 * (a + 1 + e) + 4 * b1 + y) = ((fC (vK mk) (vT mt.2.1) (lfR (vK mk) (vR mp) kd a b1) kd a b1 e + sumR (fun b => sumR ((tC (vK mk).1 (vT mt.2.1) kd (a * 6 + (a + e)) ((a + 1 + e) * 6 + b1)) b) 0 mk.1) 0 x) + sumR ((tC (vK mk).1 (vT mt.2.1) kd (a * 6 + (a + e)) ((a + 1 + e) * 6 + b1)) x) 0 (y + 1)) := by rw [sumR_s, eC]; exact Nat.add_assoc _ _ _
                    refine ab_hp (congrArg (fun q : hF => hc r s w c b d k t ++ hm ms mk mp mw mc md q me) (va4 hS hC (show _ = (maxR ((tS (vK mk).1 (vT mt.2.2) kd (a * 6 + (a + e)) ((a + 1 + e) * 6 + b1)) x) (max2 (tS (vK mk).1 (vT mt.2.2) kd (a * 6 + (a + e)) ((a + 1 + e) * 6 + b1)) (fB (vK mk) (vT mt.2.2) (lfR (vK mk) (vR mp) kd a b1) kd a b1 e) mk.1 x) 0 (y + 1)) by
                      rw [maxR_s, eB]
                      first
                      | rw [Nat.max_eq_left c261]
                      | rw [Nat.max_eq_right (Nat.le_of_lt c261)]))) ?_
                    refine a_incN X d_Mo_findSpan_278 rfl (by decide) ?_
                    refine a_goto X 115 d_Mo_findSpan_281 (by decide) ?_
                    refine ab_sub [(0, .ref 204), (1, .int (nI a)), (2, .int (nI b1)), (3, .int (nI kd)), (4, .int (nI (24 * a + 4 * b1 + kd))), (5, .int (nI (a + 1 + e))), (6, .int (nI x)), (7, .int (nI (y + 1)))] rfl ?_
                    exact ih3 (y + 1) (by omega) (by omega)
  ·
    subst c10
    have hlf : leaR (vK mk) kd (mp.2.1 a) = lfR (vK mk) (vR mp) kd a a := by unfold lfR; rw [if_pos rfl]; rfl
    have hl16 : leaR (vK mk) kd (mp.2.1 a) ≤ 16 := leaR_le (fun i j => hle (4 * i + j))
    refine a_aload_n X 0 d_Mo_findSpan_13 rfl rfl ?_
    refine a_get X ff_Mo_50 d_Mo_findSpan_14 mq_203 rfl ?_
    refine a_iload X d_Mo_findSpan_17 rfl ?_
    refine a_aload_n X 0 d_Mo_findSpan_19 rfl rfl ?_
    refine a_iload_n X 3 d_Mo_findSpan_20 rfl rfl ?_
    refine a_iload_n X 1 d_Mo_findSpan_21 rfl rfl ?_
    refine a_callV X (a := 203) (As := [.int (nI _), .int (nI _)]) mq_203 rfl fb_Mo_leafOf lk_Mo_167 im_Mo_leafOf se_Mo_leafOf (c_Mo_lof (by omega) (by omega) hle (hsg a (by omega))) rfl rfl (Nat.le_of_ble_eq_true rfl) (by decide) (by decide) (Nat.le_refl _) (Nat.le_refl _) d_Mo_findSpan_22 (fun v h1 hp => ?_)
    obtain ⟨rfl, rfl⟩ := hp
    refine a_last X d_Mo_findSpan_25 mq_217 rfl (ab_ix_nI (by omega) (by decide)) ?_
    refine ab_hp ma_sums ?_
    refine a_aload_n X 0 d_Mo_findSpan_26 rfl rfl ?_
    refine a_get X ff_Mo_53 d_Mo_findSpan_27 mq_203 rfl ?_
    refine a_iload X d_Mo_findSpan_30 rfl ?_
    refine a_aload_n X 0 d_Mo_findSpan_32 rfl rfl ?_
    refine a_get X ff_Mo_50 d_Mo_findSpan_33 mq_203 rfl ?_
    refine a_iload X d_Mo_findSpan_36 rfl ?_
    refine a_lald X d_Mo_findSpan_38 mq_217 rfl (ab_ix_nI (by omega) (by decide)) ?_
    refine ab_topl (congrArg lN vu_self) ?_
    refine a_lconst X (v := lN 0) d_Mo_findSpan_39 (by decide) ?_
    refine a_lc_le X 48 (by omega) (by omega) d_Mo_findSpan_40 d_Mo_findSpan_41 (by decide) (fun c40 => ?_) (fun c40 => ?_)
    ·
      refine a_lconst X (v := lN 0) d_Mo_findSpan_48 (by decide) ?_
      refine a_last X d_Mo_findSpan_49 mq_218 rfl (ab_ix_nI (by omega) (by decide)) ?_
      refine ab_hp ma_counts ?_
      refine a_aload_n X 0 d_Mo_findSpan_50 rfl rfl ?_
      refine a_get X ff_Mo_56 d_Mo_findSpan_51 mq_203 rfl ?_
      refine a_iload X d_Mo_findSpan_54 rfl ?_
      refine a_aload_n X 0 d_Mo_findSpan_56 rfl rfl ?_
      refine a_get X ff_Mo_50 d_Mo_findSpan_57 mq_203 rfl ?_
      refine a_iload X d_Mo_findSpan_60 rfl ?_
      refine a_lald X d_Mo_findSpan_62 mq_217 rfl (ab_ix_nI (by omega) (by decide)) ?_
      refine ab_topl (congrArg lN vu_self) ?_
      refine a_last X d_Mo_findSpan_63 mq_219 rfl (ab_ix_nI (by omega) (by decide)) ?_
      refine ab_hp ma_bests ?_
      exact a_vret X d_Mo_findSpan_64 (Nat.le_refl _) (Nat.le_refl _) ⟨rfl, by
        rw [Nat.sub_self]
        unfold fS fC fB
        show _ = hc r s w c b d k t ++ hm ms mk mp mw mc md (va_up mt.1 (24 * a + 4 * a + kd) (lfR (vK mk) (vR mp) kd a a + 0), va_up mt.2.1 (24 * a + 4 * a + kd) (min (lfR (vK mk) (vR mp) kd a a) 1 + 0), va_up mt.2.2 (24 * a + 4 * a + kd) (lfR (vK mk) (vR mp) kd a a)) me
        rw [← hlf]
        first
        | rw [show min (leaR (vK mk) kd (mp.2.1 a)) 1 = 0 by omega]
        | rw [show min (leaR (vK mk) kd (mp.2.1 a)) 1 = 1 by omega]
        rfl⟩
    ·
      refine a_lconst X (v := lN 1) d_Mo_findSpan_44 (by decide) ?_
      refine a_goto X 49 d_Mo_findSpan_45 (by decide) ?_
      refine a_last X d_Mo_findSpan_49 mq_218 rfl (ab_ix_nI (by omega) (by decide)) ?_
      refine ab_hp ma_counts ?_
      refine a_aload_n X 0 d_Mo_findSpan_50 rfl rfl ?_
      refine a_get X ff_Mo_56 d_Mo_findSpan_51 mq_203 rfl ?_
      refine a_iload X d_Mo_findSpan_54 rfl ?_
      refine a_aload_n X 0 d_Mo_findSpan_56 rfl rfl ?_
      refine a_get X ff_Mo_50 d_Mo_findSpan_57 mq_203 rfl ?_
      refine a_iload X d_Mo_findSpan_60 rfl ?_
      refine a_lald X d_Mo_findSpan_62 mq_217 rfl (ab_ix_nI (by omega) (by decide)) ?_
      refine ab_topl (congrArg lN vu_self) ?_
      refine a_last X d_Mo_findSpan_63 mq_219 rfl (ab_ix_nI (by omega) (by decide)) ?_
      refine ab_hp ma_bests ?_
      exact a_vret X d_Mo_findSpan_64 (Nat.le_refl _) (Nat.le_refl _) ⟨rfl, by
        rw [Nat.sub_self]
        unfold fS fC fB
        show _ = hc r s w c b d k t ++ hm ms mk mp mw mc md (va_up mt.1 (24 * a + 4 * a + kd) (lfR (vK mk) (vR mp) kd a a + 0), va_up mt.2.1 (24 * a + 4 * a + kd) (min (lfR (vK mk) (vR mp) kd a a) 1 + 0), va_up mt.2.2 (24 * a + 4 * a + kd) (lfR (vK mk) (vR mp) kd a a)) me
        rw [← hlf]
        first
        | rw [show min (leaR (vK mk) kd (mp.2.1 a)) 1 = 0 by omega]
        | rw [show min (leaR (vK mk) kd (mp.2.1 a)) 1 = 1 by omega]
        rfl⟩
