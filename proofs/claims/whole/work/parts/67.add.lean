theorem ite_iff {p q : Prop} [Decidable p] [Decidable q] {a b : Nat} (h : p ↔ q) : (if p then a else b) = if q then a else b := by
  by_cases hp : p
  · rw [if_pos hp, if_pos (h.mp hp)]
  · rw [if_neg hp, if_neg (fun x => hp (h.mpr x))]
def adS (vd : Nat → Nat) (wt i : Nat) (f : Nat → Nat) : Nat → Nat := fun j => f j + if j / 4 < i ∧ vd (j / 4) / 2 = j % 4 then wt else 0
def adB (vd : Nat → Nat) (wt i : Nat) (f : Nat → Nat) : Nat → Nat := fun j => f j + if j / 4 < i ∧ vd (j / 4) = 2 * (j % 4) then wt else 0
def adP (vd : Nat → Nat) (n wt i : Nat) (f : Nat → Nat) : Nat → Nat := fun j => f j + if j / 16 < i ∧ j / 16 + 1 < n ∧ vd (j / 16) / 2 = j / 4 % 4 ∧ vd (j / 16 + 1) = 2 * (j % 4) then wt else 0
theorem adS_zero (vd : Nat → Nat) (wt : Nat) (f : Nat → Nat) : adS vd wt 0 f = f := by
  funext j; show f j + (if _ then _ else _) = f j; rw [if_neg (by omega)]; rfl
theorem adB_zero (vd : Nat → Nat) (wt : Nat) (f : Nat → Nat) : adB vd wt 0 f = f := by
  funext j; show f j + (if _ then _ else _) = f j; rw [if_neg (by omega)]; rfl
theorem adP_zero (vd : Nat → Nat) (n wt : Nat) (f : Nat → Nat) : adP vd n wt 0 f = f := by
  funext j; show f j + (if _ then _ else _) = f j; rw [if_neg (by omega)]; rfl
theorem adS_succ {vd : Nat → Nat} {wt i : Nat} {f : Nat → Nat} (h : vd i < 8) : adS vd wt (i + 1) f = va_up (adS vd wt i f) (4 * i + vd i / 2) (adS vd wt i f (4 * i + vd i / 2) + wt) := by
  funext j
  show adS vd wt (i + 1) f j = if j = 4 * i + vd i / 2 then adS vd wt i f (4 * i + vd i / 2) + wt else adS vd wt i f j
  split
  · next e =>
    subst e
    simp only [adS]
    rw [show (4 * i + vd i / 2) / 4 = i by omega, show (4 * i + vd i / 2) % 4 = vd i / 2 by omega, if_pos ⟨by omega, rfl⟩, if_neg (by omega), Nat.add_zero]
  · next e =>
    simp only [adS]
    congr 1
    by_cases hj : j / 4 = i
    · rw [if_neg (by rw [hj]; omega), if_neg (by omega)]
    · exact ite_iff ⟨fun q => ⟨by omega, q.2⟩, fun q => ⟨by omega, q.2⟩⟩
theorem adB_y {vd : Nat → Nat} {wt i : Nat} {f : Nat → Nat} (h : vd i < 8) (he : vd i % 2 = 0) : adB vd wt (i + 1) f = va_up (adB vd wt i f) (4 * i + vd i / 2) (adB vd wt i f (4 * i + vd i / 2) + wt) := by
  funext j
  show adB vd wt (i + 1) f j = if j = 4 * i + vd i / 2 then adB vd wt i f (4 * i + vd i / 2) + wt else adB vd wt i f j
  split
  · next e =>
    subst e
    simp only [adB]
    rw [show (4 * i + vd i / 2) / 4 = i by omega, show (4 * i + vd i / 2) % 4 = vd i / 2 by omega, if_pos ⟨by omega, by omega⟩, if_neg (by omega), Nat.add_zero]
  · next e =>
    simp only [adB]
    congr 1
    by_cases hj : j / 4 = i
    · rw [if_neg (by rw [hj]; omega), if_neg (by omega)]
    · exact ite_iff ⟨fun q => ⟨by omega, q.2⟩, fun q => ⟨by omega, q.2⟩⟩
theorem adB_n {vd : Nat → Nat} {wt i : Nat} {f : Nat → Nat} (he : 0 < vd i % 2) : adB vd wt (i + 1) f = va_up (adB vd wt i f) (4 * i + vd i / 2) (adB vd wt i f (4 * i + vd i / 2) + 0) := by
  funext j
  have hs : adB vd wt (i + 1) f j = adB vd wt i f j := by
    simp only [adB]
    congr 1
    by_cases hj : j / 4 = i
    · rw [if_neg (by rw [hj]; omega), if_neg (by omega)]
    · exact ite_iff ⟨fun q => ⟨by omega, q.2⟩, fun q => ⟨by omega, q.2⟩⟩
  rw [hs]
  show _ = if j = 4 * i + vd i / 2 then adB vd wt i f (4 * i + vd i / 2) + 0 else adB vd wt i f j
  split
  · next e => rw [e]; rfl
  · rfl
theorem adP_y {vd : Nat → Nat} {n wt i : Nat} {f : Nat → Nat} (h : vd i < 8) (h1 : i + 1 < n) (h2 : vd (i + 1) < 8) (he : vd (i + 1) % 2 = 0) : adP vd n wt (i + 1) f = va_up (adP vd n wt i f) (16 * i + 4 * (vd i / 2) + vd (i + 1) / 2) (adP vd n wt i f (16 * i + 4 * (vd i / 2) + vd (i + 1) / 2) + wt) := by
  funext j
  show adP vd n wt (i + 1) f j = if j = 16 * i + 4 * (vd i / 2) + vd (i + 1) / 2 then adP vd n wt i f (16 * i + 4 * (vd i / 2) + vd (i + 1) / 2) + wt else adP vd n wt i f j
  split
  · next e =>
    subst e
    simp only [adP]
    rw [show (16 * i + 4 * (vd i / 2) + vd (i + 1) / 2) / 16 = i by omega, show (16 * i + 4 * (vd i / 2) + vd (i + 1) / 2) / 4 % 4 = vd i / 2 by omega, show (16 * i + 4 * (vd i / 2) + vd (i + 1) / 2) % 4 = vd (i + 1) / 2 by omega, if_pos ⟨by omega, h1, rfl, by omega⟩, if_neg (by omega)]; rfl
  · next e =>
    simp only [adP]
    congr 1
    by_cases hj : j / 16 = i
    · rw [if_neg (by rw [hj]; omega), if_neg (by omega)]
    · exact ite_iff ⟨fun q => ⟨by omega, q.2⟩, fun q => ⟨by omega, q.2⟩⟩
theorem adP_n {vd : Nat → Nat} {n wt i : Nat} {f : Nat → Nat} (h : ¬ i + 1 < n ∨ 0 < vd (i + 1) % 2) : adP vd n wt (i + 1) f = adP vd n wt i f := by
  funext j
  simp only [adP]
  congr 1
  by_cases hj : j / 16 = i
  · rw [if_neg (by rw [hj]; omega), if_neg (by omega)]
  · exact ite_iff ⟨fun q => ⟨by omega, q.2⟩, fun q => ⟨by omega, q.2⟩⟩
set_option maxHeartbeats 4000000 in
set_option maxRecDepth 20000 in
theorem c_Mo_add {E : ab_E} {l : Launch} {r : hR} {s : hS} {w c : hW} {b : hB} {d : hD} {k : hK} {t : hT} {ms mk : hA} {mp : hP} {mw : Nat → Int32} {mc : hC} {md : Nat × (Nat → Int32)} {mt : hF} {me : hE} {wt : Nat} {vd : Nat → Nat} (hwt : wt < 2 ^ 63) (hn : mp.1 ≤ 6) (hK : mc.2.2.2.2.2.2.1 ≤ 10) (hb : ∀ j, j < mc.2.2.2.2.2.2.1 → mc.2.2.2.2.2.2.2.1 j < 2 ^ 63) (hv : ∀ i, i < mp.1 → mw i = nI (vd i) ∧ vd i < 8) : ab_Con E l y_Mo_add b_Mo_add 5 none 1 24 [.ref 204, .long (lN wt)] (hc r s w c b d k t ++ hm ms mk mp mw mc md mt me) 0 0 (fun v h1 => ∃ (r1 : Nat) (kw1 : Nat → Nat) (ky1 : Nat → Int32), r1 ≤ mc.2.2.2.2.2.2.1 ∧ (r1 = 0 ∨ wt ≤ mc.2.2.2.2.2.2.2.1 (r1 - 1)) ∧ (∀ j, r1 ≤ j → j < mc.2.2.2.2.2.2.1 → mc.2.2.2.2.2.2.2.1 j < wt) ∧ shf mc.2.2.2.2.2.2.1 r1 mc.2.2.2.2.2.2.2.1 mc.2.2.2.2.2.2.2.2 kw1 ky1 ∧ kw1 r1 = wt ∧ (∀ p, p < mp.1 → ky1 (6 * r1 + p) = mw p) ∧ v = none ∧ h1 = hc r s w c b d k t ++ hm ms mk mp mw (mc.1, mc.2.1 + wt, mc.2.2.1 + 1, adS vd wt mp.1 mc.2.2.2.1, adB vd wt mp.1 mc.2.2.2.2.1, adP vd mp.1 wt mp.1 mc.2.2.2.2.2.1, (if mc.2.2.2.2.2.2.1 < 10 then mc.2.2.2.2.2.2.1 + 1 else 10), kw1, ky1) md mt me) := by
  refine ab_con (own := "HiddenRowsModel") (ini := false) (by decide) (fun h => by cases h) rfl (Nat.le_of_ble_eq_true rfl) ?_
  intro G m X
  show ab_R E G m 5 0 0 0 [(0, .ref 204), (1, .long (lN wt))] [] (hc r s w c b d k t ++ hm ms mk mp mw mc md mt me)
  refine a_aload_n X 0 d_Mo_add_0 rfl rfl ?_
  refine a_dup X d_Mo_add_1 rfl ?_
  refine a_get X ff_Mo_116 d_Mo_add_2 mq_203 rfl ?_
  refine a_lload_n X 1 d_Mo_add_5 rfl rfl ?_
  refine a_ladd X d_Mo_add_6 ?_
  refine ab_topl (lN_add _ _) ?_
  refine a_put X ff_Mo_116 d_Mo_add_7 mq_203 (Nat.le_of_ble_eq_true rfl) rfl rfl ?_
  refine ab_hp mo_set ?_
  refine a_aload_n X 0 d_Mo_add_10 rfl rfl ?_
  refine a_dup X d_Mo_add_11 rfl ?_
  refine a_get X ff_Mo_120 d_Mo_add_12 mq_203 rfl ?_
  refine a_iconst X (v := nI 1) d_Mo_add_15 (by decide) ?_
  refine a_iadd X d_Mo_add_16 ?_
  refine ab_topi (nI_add _ _) ?_
  refine a_put X ff_Mo_120 d_Mo_add_17 mq_203 (Nat.le_of_ble_eq_true rfl) rfl rfl ?_
  refine ab_hp mo_set ?_
  refine a_aload_n X 0 d_Mo_add_20 rfl rfl ?_
  refine a_lload_n X 1 d_Mo_add_21 rfl rfl ?_
  refine a_callV X (a := 203) (As := [.long (lN _)]) mq_203 rfl fb_Mo_keep lk_Mo_135 im_Mo_keep se_Mo_keep (c_Mo_kee hwt hn hK hb) rfl rfl (Nat.le_of_ble_eq_true rfl) (by decide) (by decide) (Nat.le_refl _) (Nat.le_refl _) d_Mo_add_22 (fun v h1 hp => ?_)
  obtain ⟨r1, kw1, ky1, q1, q2, q3, q4, q5, q6, rfl, rfl⟩ := hp
  refine a_iconst X (v := nI 0) d_Mo_add_25 (by decide) ?_
  refine a_istore_n X 3 d_Mo_add_26 rfl (by decide) ?_
  refine ab_sub [(0, .ref 204), (1, .long (lN wt)), (3, .int (nI 0))] rfl ?_
  refine ab_hp (show _ = hc r s w c b d k t ++ hm ms mk mp mw (mc.1, mc.2.1 + wt, mc.2.2.1 + 1, adS vd wt 0 mc.2.2.2.1, adB vd wt 0 mc.2.2.2.2.1, adP vd mp.1 wt 0 mc.2.2.2.2.2.1, (if mc.2.2.2.2.2.2.1 < 10 then mc.2.2.2.2.2.2.1 + 1 else 10), kw1, ky1) md mt me by rw [adS_zero, adB_zero, adP_zero]) ?_
  suffices LP : ∀ (mm i : Nat), i ≤ mp.1 → mp.1 - i < mm → ab_R E G m 5 0 0 27 [(0, .ref 204), (1, .long (lN wt)), (3, .int (nI i))] [] (hc r s w c b d k t ++ hm ms mk mp mw (mc.1, mc.2.1 + wt, mc.2.2.1 + 1, adS vd wt i mc.2.2.2.1, adB vd wt i mc.2.2.2.2.1, adP vd mp.1 wt i mc.2.2.2.2.2.1, (if mc.2.2.2.2.2.2.1 < 10 then mc.2.2.2.2.2.2.1 + 1 else 10), kw1, ky1) md mt me) from LP (mp.1 + 1) 0 (by omega) (by omega)
  intro mm
  induction mm with
  | zero => intro i h1 h2; exfalso; omega
  | succ mm ih =>
    intro i h1 h2
    refine a_iload_n X 3 d_Mo_add_27 rfl rfl ?_
    refine a_aload_n X 0 d_Mo_add_28 rfl rfl ?_
    refine a_get X ff_Mo_82 d_Mo_add_29 mq_203 rfl ?_
    refine a_icmp_geN X 148 (by omega) (by omega) d_Mo_add_32 (by decide) (fun c32 => ?_) (fun c32 => ?_)
    ·
      obtain rfl : i = mp.1 := by omega
      exact a_vret X d_Mo_add_148 (Nat.le_refl _) (Nat.le_refl _) ⟨r1, kw1, ky1, q1, q2, q3, q4, q5, q6, rfl, rfl⟩
    ·
      refine a_aload_n X 0 d_Mo_add_35 rfl rfl ?_
      refine a_get X ff_Mo_28 d_Mo_add_36 mq_203 rfl ?_
      refine a_iload_n X 3 d_Mo_add_39 rfl rfl ?_
      refine a_iald X d_Mo_add_40 mq_210 rfl (ab_ix_nI (by omega) (by decide)) ?_
      refine ab_topi (hv i (by omega)).1 ?_
      have hv8 := (hv i (by omega)).2
      have hS := adS_succ (wt := wt) (f := mc.2.2.2.1) hv8
      refine a_iconst X (v := nI 2) d_Mo_add_41 (by decide) ?_
      refine a_idiv X d_Mo_add_42 (by decide) ?_
      refine ab_topi (pk_div (by omega) (by omega) (by omega)) ?_
      refine a_istore X d_Mo_add_43 (by decide) ?_
      refine a_aload_n X 0 d_Mo_add_45 rfl rfl ?_
      refine a_get X ff_Mo_31 d_Mo_add_46 mq_203 rfl ?_
      refine a_iconst X (v := nI 4) d_Mo_add_49 (by decide) ?_
      refine a_iload_n X 3 d_Mo_add_50 rfl rfl ?_
      refine a_imul X d_Mo_add_51 ?_
      refine ab_topi (pk_mul _ _) ?_
      refine a_iload X d_Mo_add_52 rfl ?_
      refine a_iadd X d_Mo_add_54 ?_
      refine ab_topi (nI_add _ _) ?_
      refine a_dup2 X d_Mo_add_55 rfl rfl ?_
      refine a_lald X d_Mo_add_56 mq_211 rfl (ab_ix_nI (by omega) (by decide)) ?_
      refine a_lload_n X 1 d_Mo_add_57 rfl rfl ?_
      refine a_ladd X d_Mo_add_58 ?_
      refine ab_topl (lN_add _ _) ?_
      refine a_last X d_Mo_add_59 mq_211 rfl (ab_ix_nI (by omega) (by decide)) ?_
      refine ab_hp ma_shares ?_
      refine a_aload_n X 0 d_Mo_add_60 rfl rfl ?_
      refine a_get X ff_Mo_35 d_Mo_add_61 mq_203 rfl ?_
      refine a_iconst X (v := nI 4) d_Mo_add_64 (by decide) ?_
      refine a_iload_n X 3 d_Mo_add_65 rfl rfl ?_
      refine a_imul X d_Mo_add_66 ?_
      refine ab_topi (pk_mul _ _) ?_
      refine a_iload X d_Mo_add_67 rfl ?_
      refine a_iadd X d_Mo_add_69 ?_
      refine ab_topi (nI_add _ _) ?_
      refine a_dup2 X d_Mo_add_70 rfl rfl ?_
      refine a_lald X d_Mo_add_71 mq_212 rfl (ab_ix_nI (by omega) (by decide)) ?_
      refine a_aload_n X 0 d_Mo_add_72 rfl rfl ?_
      refine a_get X ff_Mo_28 d_Mo_add_73 mq_203 rfl ?_
      refine a_iload_n X 3 d_Mo_add_76 rfl rfl ?_
      refine a_iald X d_Mo_add_77 mq_210 rfl (ab_ix_nI (by omega) (by decide)) ?_
      refine ab_topi (hv i (by omega)).1 ?_
      have hv8 := (hv i (by omega)).2
      refine a_iconst X (v := nI 2) d_Mo_add_78 (by decide) ?_
      refine a_irem X d_Mo_add_79 (by decide) ?_
      refine ab_topi (pk_rem (by omega) (by omega) (by omega)) ?_
      refine a_if_neN X 87 (by omega) d_Mo_add_80 (by decide) (fun c80 => ?_) (fun c80 => ?_)
      ·
        have hB := adB_n (wt := wt) (f := mc.2.2.2.2.1) c80
        refine a_lconst X (v := lN 0) d_Mo_add_87 (by decide) ?_
        refine a_ladd X d_Mo_add_88 ?_
        refine ab_topl (lN_add _ _) ?_
        refine a_last X d_Mo_add_89 mq_212 rfl (ab_ix_nI (by omega) (by decide)) ?_
        refine ab_hp ma_begins ?_
        refine a_iload_n X 3 d_Mo_add_90 rfl rfl ?_
        refine a_iconst X (v := nI 1) d_Mo_add_91 (by decide) ?_
        refine a_iadd X d_Mo_add_92 ?_
        refine ab_topi (nI_add _ _) ?_
        refine a_aload_n X 0 d_Mo_add_93 rfl rfl ?_
        refine a_get X ff_Mo_82 d_Mo_add_94 mq_203 rfl ?_
        refine a_icmp_geN X 142 (by omega) (by omega) d_Mo_add_97 (by decide) (fun c97 => ?_) (fun c97 => ?_)
        ·
          have hP := adP_n (wt := wt) (f := mc.2.2.2.2.2.1) (vd := vd) (n := mp.1) (i := i) (Or.inl (by omega))
          refine a_incN X d_Mo_add_142 rfl (by decide) ?_
          refine a_goto X 27 d_Mo_add_145 (by decide) ?_
          refine ab_sub [(0, .ref 204), (1, .long (lN wt)), (3, .int (nI (i + 1)))] rfl ?_
          refine ab_hp (show _ = hc r s w c b d k t ++ hm ms mk mp mw (mc.1, mc.2.1 + wt, mc.2.2.1 + 1, adS vd wt (i + 1) mc.2.2.2.1, adB vd wt (i + 1) mc.2.2.2.2.1, adP vd mp.1 wt (i + 1) mc.2.2.2.2.2.1, (if mc.2.2.2.2.2.2.1 < 10 then mc.2.2.2.2.2.2.1 + 1 else 10), kw1, ky1) md mt me by rw [hS, hB, hP]) ?_
          exact ih (i + 1) (by omega) (by omega)
        ·
          refine a_aload_n X 0 d_Mo_add_100 rfl rfl ?_
          refine a_get X ff_Mo_28 d_Mo_add_101 mq_203 rfl ?_
          refine a_iload_n X 3 d_Mo_add_104 rfl rfl ?_
          refine a_iconst X (v := nI 1) d_Mo_add_105 (by decide) ?_
          refine a_iadd X d_Mo_add_106 ?_
          refine ab_topi (nI_add _ _) ?_
          refine a_iald X d_Mo_add_107 mq_210 rfl (ab_ix_nI (by omega) (by decide)) ?_
          refine ab_topi (hv (i + 1) (by omega)).1 ?_
          have hv9 := (hv (i + 1) (by omega)).2
          refine a_iconst X (v := nI 2) d_Mo_add_108 (by decide) ?_
          refine a_irem X d_Mo_add_109 (by decide) ?_
          refine ab_topi (pk_rem (by omega) (by omega) (by omega)) ?_
          refine a_if_neN X 142 (by omega) d_Mo_add_110 (by decide) (fun c110 => ?_) (fun c110 => ?_)
          ·
            have hP := adP_n (wt := wt) (f := mc.2.2.2.2.2.1) (vd := vd) (n := mp.1) (Or.inr c110)
            refine a_incN X d_Mo_add_142 rfl (by decide) ?_
            refine a_goto X 27 d_Mo_add_145 (by decide) ?_
            refine ab_sub [(0, .ref 204), (1, .long (lN wt)), (3, .int (nI (i + 1)))] rfl ?_
            refine ab_hp (show _ = hc r s w c b d k t ++ hm ms mk mp mw (mc.1, mc.2.1 + wt, mc.2.2.1 + 1, adS vd wt (i + 1) mc.2.2.2.1, adB vd wt (i + 1) mc.2.2.2.2.1, adP vd mp.1 wt (i + 1) mc.2.2.2.2.2.1, (if mc.2.2.2.2.2.2.1 < 10 then mc.2.2.2.2.2.2.1 + 1 else 10), kw1, ky1) md mt me by rw [hS, hB, hP]) ?_
            exact ih (i + 1) (by omega) (by omega)
          ·
            have hP := adP_y (wt := wt) (f := mc.2.2.2.2.2.1) (vd := vd) (n := mp.1) hv8 c97 hv9 c110
            refine a_aload_n X 0 d_Mo_add_113 rfl rfl ?_
            refine a_get X ff_Mo_38 d_Mo_add_114 mq_203 rfl ?_
            refine a_bipush X (v := nI 16) d_Mo_add_117 (by decide) ?_
            refine a_iload_n X 3 d_Mo_add_119 rfl rfl ?_
            refine a_imul X d_Mo_add_120 ?_
            refine ab_topi (pk_mul _ _) ?_
            refine a_iconst X (v := nI 4) d_Mo_add_121 (by decide) ?_
            refine a_iload X d_Mo_add_122 rfl ?_
            refine a_imul X d_Mo_add_124 ?_
            refine ab_topi (pk_mul _ _) ?_
            refine a_iadd X d_Mo_add_125 ?_
            refine ab_topi (nI_add _ _) ?_
            refine a_aload_n X 0 d_Mo_add_126 rfl rfl ?_
            refine a_get X ff_Mo_28 d_Mo_add_127 mq_203 rfl ?_
            refine a_iload_n X 3 d_Mo_add_130 rfl rfl ?_
            refine a_iconst X (v := nI 1) d_Mo_add_131 (by decide) ?_
            refine a_iadd X d_Mo_add_132 ?_
            refine ab_topi (nI_add _ _) ?_
            refine a_iald X d_Mo_add_133 mq_210 rfl (ab_ix_nI (by omega) (by decide)) ?_
            refine ab_topi (hv (i + 1) (by omega)).1 ?_
            have hv9 := (hv (i + 1) (by omega)).2
            refine a_iconst X (v := nI 2) d_Mo_add_134 (by decide) ?_
            refine a_idiv X d_Mo_add_135 (by decide) ?_
            refine ab_topi (pk_div (by omega) (by omega) (by omega)) ?_
            refine a_iadd X d_Mo_add_136 ?_
            refine ab_topi (nI_add _ _) ?_
            refine a_dup2 X d_Mo_add_137 rfl rfl ?_
            refine a_lald X d_Mo_add_138 mq_213 rfl (ab_ix_nI (by omega) (by decide)) ?_
            refine a_lload_n X 1 d_Mo_add_139 rfl rfl ?_
            refine a_ladd X d_Mo_add_140 ?_
            refine ab_topl (lN_add _ _) ?_
            refine a_last X d_Mo_add_141 mq_213 rfl (ab_ix_nI (by omega) (by decide)) ?_
            refine ab_hp ma_pairs ?_
            refine a_incN X d_Mo_add_142 rfl (by decide) ?_
            refine a_goto X 27 d_Mo_add_145 (by decide) ?_
            refine ab_sub [(0, .ref 204), (1, .long (lN wt)), (3, .int (nI (i + 1)))] rfl ?_
            refine ab_hp (show _ = hc r s w c b d k t ++ hm ms mk mp mw (mc.1, mc.2.1 + wt, mc.2.2.1 + 1, adS vd wt (i + 1) mc.2.2.2.1, adB vd wt (i + 1) mc.2.2.2.2.1, adP vd mp.1 wt (i + 1) mc.2.2.2.2.2.1, (if mc.2.2.2.2.2.2.1 < 10 then mc.2.2.2.2.2.2.1 + 1 else 10), kw1, ky1) md mt me by rw [hS, hB, hP]) ?_
            exact ih (i + 1) (by omega) (by omega)
      ·
        have hB := adB_y (wt := wt) (f := mc.2.2.2.2.1) hv8 c80
        refine a_lload_n X 1 d_Mo_add_83 rfl rfl ?_
        refine a_goto X 88 d_Mo_add_84 (by decide) ?_
        refine a_ladd X d_Mo_add_88 ?_
        refine ab_topl (lN_add _ _) ?_
        refine a_last X d_Mo_add_89 mq_212 rfl (ab_ix_nI (by omega) (by decide)) ?_
        refine ab_hp ma_begins ?_
        refine a_iload_n X 3 d_Mo_add_90 rfl rfl ?_
        refine a_iconst X (v := nI 1) d_Mo_add_91 (by decide) ?_
        refine a_iadd X d_Mo_add_92 ?_
        refine ab_topi (nI_add _ _) ?_
        refine a_aload_n X 0 d_Mo_add_93 rfl rfl ?_
        refine a_get X ff_Mo_82 d_Mo_add_94 mq_203 rfl ?_
        refine a_icmp_geN X 142 (by omega) (by omega) d_Mo_add_97 (by decide) (fun c97 => ?_) (fun c97 => ?_)
        ·
          have hP := adP_n (wt := wt) (f := mc.2.2.2.2.2.1) (vd := vd) (n := mp.1) (i := i) (Or.inl (by omega))
          refine a_incN X d_Mo_add_142 rfl (by decide) ?_
          refine a_goto X 27 d_Mo_add_145 (by decide) ?_
          refine ab_sub [(0, .ref 204), (1, .long (lN wt)), (3, .int (nI (i + 1)))] rfl ?_
          refine ab_hp (show _ = hc r s w c b d k t ++ hm ms mk mp mw (mc.1, mc.2.1 + wt, mc.2.2.1 + 1, adS vd wt (i + 1) mc.2.2.2.1, adB vd wt (i + 1) mc.2.2.2.2.1, adP vd mp.1 wt (i + 1) mc.2.2.2.2.2.1, (if mc.2.2.2.2.2.2.1 < 10 then mc.2.2.2.2.2.2.1 + 1 else 10), kw1, ky1) md mt me by rw [hS, hB, hP]) ?_
          exact ih (i + 1) (by omega) (by omega)
        ·
          refine a_aload_n X 0 d_Mo_add_100 rfl rfl ?_
          refine a_get X ff_Mo_28 d_Mo_add_101 mq_203 rfl ?_
          refine a_iload_n X 3 d_Mo_add_104 rfl rfl ?_
          refine a_iconst X (v := nI 1) d_Mo_add_105 (by decide) ?_
          refine a_iadd X d_Mo_add_106 ?_
          refine ab_topi (nI_add _ _) ?_
          refine a_iald X d_Mo_add_107 mq_210 rfl (ab_ix_nI (by omega) (by decide)) ?_
          refine ab_topi (hv (i + 1) (by omega)).1 ?_
          have hv9 := (hv (i + 1) (by omega)).2
          refine a_iconst X (v := nI 2) d_Mo_add_108 (by decide) ?_
          refine a_irem X d_Mo_add_109 (by decide) ?_
          refine ab_topi (pk_rem (by omega) (by omega) (by omega)) ?_
          refine a_if_neN X 142 (by omega) d_Mo_add_110 (by decide) (fun c110 => ?_) (fun c110 => ?_)
          ·
            have hP := adP_n (wt := wt) (f := mc.2.2.2.2.2.1) (vd := vd) (n := mp.1) (Or.inr c110)
            refine a_incN X d_Mo_add_142 rfl (by decide) ?_
            refine a_goto X 27 d_Mo_add_145 (by decide) ?_
            refine ab_sub [(0, .ref 204), (1, .long (lN wt)), (3, .int (nI (i + 1)))] rfl ?_
            refine ab_hp (show _ = hc r s w c b d k t ++ hm ms mk mp mw (mc.1, mc.2.1 + wt, mc.2.2.1 + 1, adS vd wt (i + 1) mc.2.2.2.1, adB vd wt (i + 1) mc.2.2.2.2.1, adP vd mp.1 wt (i + 1) mc.2.2.2.2.2.1, (if mc.2.2.2.2.2.2.1 < 10 then mc.2.2.2.2.2.2.1 + 1 else 10), kw1, ky1) md mt me by rw [hS, hB, hP]) ?_
            exact ih (i + 1) (by omega) (by omega)
          ·
            have hP := adP_y (wt := wt) (f := mc.2.2.2.2.2.1) (vd := vd) (n := mp.1) hv8 c97 hv9 c110
            refine a_aload_n X 0 d_Mo_add_113 rfl rfl ?_
            refine a_get X ff_Mo_38 d_Mo_add_114 mq_203 rfl ?_
            refine a_bipush X (v := nI 16) d_Mo_add_117 (by decide) ?_
            refine a_iload_n X 3 d_Mo_add_119 rfl rfl ?_
            refine a_imul X d_Mo_add_120 ?_
            refine ab_topi (pk_mul _ _) ?_
            refine a_iconst X (v := nI 4) d_Mo_add_121 (by decide) ?_
            refine a_iload X d_Mo_add_122 rfl ?_
            refine a_imul X d_Mo_add_124 ?_
            refine ab_topi (pk_mul _ _) ?_
            refine a_iadd X d_Mo_add_125 ?_
            refine ab_topi (nI_add _ _) ?_
            refine a_aload_n X 0 d_Mo_add_126 rfl rfl ?_
            refine a_get X ff_Mo_28 d_Mo_add_127 mq_203 rfl ?_
            refine a_iload_n X 3 d_Mo_add_130 rfl rfl ?_
            refine a_iconst X (v := nI 1) d_Mo_add_131 (by decide) ?_
            refine a_iadd X d_Mo_add_132 ?_
            refine ab_topi (nI_add _ _) ?_
            refine a_iald X d_Mo_add_133 mq_210 rfl (ab_ix_nI (by omega) (by decide)) ?_
            refine ab_topi (hv (i + 1) (by omega)).1 ?_
            have hv9 := (hv (i + 1) (by omega)).2
            refine a_iconst X (v := nI 2) d_Mo_add_134 (by decide) ?_
            refine a_idiv X d_Mo_add_135 (by decide) ?_
            refine ab_topi (pk_div (by omega) (by omega) (by omega)) ?_
            refine a_iadd X d_Mo_add_136 ?_
            refine ab_topi (nI_add _ _) ?_
            refine a_dup2 X d_Mo_add_137 rfl rfl ?_
            refine a_lald X d_Mo_add_138 mq_213 rfl (ab_ix_nI (by omega) (by decide)) ?_
            refine a_lload_n X 1 d_Mo_add_139 rfl rfl ?_
            refine a_ladd X d_Mo_add_140 ?_
            refine ab_topl (lN_add _ _) ?_
            refine a_last X d_Mo_add_141 mq_213 rfl (ab_ix_nI (by omega) (by decide)) ?_
            refine ab_hp ma_pairs ?_
            refine a_incN X d_Mo_add_142 rfl (by decide) ?_
            refine a_goto X 27 d_Mo_add_145 (by decide) ?_
            refine ab_sub [(0, .ref 204), (1, .long (lN wt)), (3, .int (nI (i + 1)))] rfl ?_
            refine ab_hp (show _ = hc r s w c b d k t ++ hm ms mk mp mw (mc.1, mc.2.1 + wt, mc.2.2.1 + 1, adS vd wt (i + 1) mc.2.2.2.1, adB vd wt (i + 1) mc.2.2.2.2.1, adP vd mp.1 wt (i + 1) mc.2.2.2.2.2.1, (if mc.2.2.2.2.2.2.1 < 10 then mc.2.2.2.2.2.2.1 + 1 else 10), kw1, ky1) md mt me by rw [hS, hB, hP]) ?_
            exact ih (i + 1) (by omega) (by omega)
