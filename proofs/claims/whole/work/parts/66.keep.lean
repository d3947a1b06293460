def shf (K r : Nat) (kw : Nat → Nat) (ky : Nat → Int32) (kw1 : Nat → Nat) (ky1 : Nat → Int32) : Prop :=
  (∀ j, j < r → kw1 j = kw j ∧ ∀ p, p < 6 → ky1 (6 * j + p) = ky (6 * j + p)) ∧ ∀ j, r < j → j ≤ K → kw1 j = kw (j - 1) ∧ ∀ p, p < 6 → ky1 (6 * j + p) = ky (6 * (j - 1) + p)
set_option maxHeartbeats 4000000 in
set_option maxRecDepth 20000 in
theorem c_Mo_kee {E : ab_E} {l : Launch} {r : hR} {s : hS} {w c : hW} {b : hB} {d : hD} {k : hK} {t : hT} {ms mk : hA} {mp : hP} {mw : Nat → Int32} {mc : hC} {md : Nat × (Nat → Int32)} {mt : hF} {me : hE} {wt : Nat} (hwt : wt < 2 ^ 63) (hn : mp.1 ≤ 6) (hK : mc.2.2.2.2.2.2.1 ≤ 10) (hb : ∀ j, j < mc.2.2.2.2.2.2.1 → mc.2.2.2.2.2.2.2.1 j < 2 ^ 63) : ab_Con E l y_Mo_keep b_Mo_keep 5 none 0 0 [.ref 204, .long (lN wt)] (hc r s w c b d k t ++ hm ms mk mp mw mc md mt me) 0 0 (fun v h1 => ∃ (r1 : Nat) (kw1 : Nat → Nat) (ky1 : Nat → Int32), r1 ≤ mc.2.2.2.2.2.2.1 ∧ (r1 = 0 ∨ wt ≤ mc.2.2.2.2.2.2.2.1 (r1 - 1)) ∧ (∀ j, r1 ≤ j → j < mc.2.2.2.2.2.2.1 → mc.2.2.2.2.2.2.2.1 j < wt) ∧ shf mc.2.2.2.2.2.2.1 r1 mc.2.2.2.2.2.2.2.1 mc.2.2.2.2.2.2.2.2 kw1 ky1 ∧ kw1 r1 = wt ∧ (∀ p, p < mp.1 → ky1 (6 * r1 + p) = mw p) ∧ v = none ∧ h1 = hc r s w c b d k t ++ hm ms mk mp mw (mc.1, mc.2.1, mc.2.2.1, mc.2.2.2.1, mc.2.2.2.2.1, mc.2.2.2.2.2.1, (if mc.2.2.2.2.2.2.1 < 10 then mc.2.2.2.2.2.2.1 + 1 else 10), kw1, ky1) md mt me) := by
  refine ab_con (own := "HiddenRowsModel") (ini := false) (by decide) (fun h => by cases h) rfl (Nat.le_of_ble_eq_true rfl) ?_
  intro G m X
  show ab_R E G m 5 0 0 0 [(0, .ref 204), (1, .long (lN wt))] [] (hc r s w c b d k t ++ hm ms mk mp mw mc md mt me)
  refine a_aload_n X 0 d_Mo_keep_0 rfl rfl ?_
  refine a_get X ff_Mo_113 d_Mo_keep_1 mq_203 rfl ?_
  refine a_istore_n X 3 d_Mo_keep_4 rfl (by decide) ?_
  refine ab_sub [(0, .ref 204), (1, .long (lN wt)), (3, .int (nI mc.2.2.2.2.2.2.1))] rfl ?_
  have J84 : ∀ (r1 : Nat) (kw1 : Nat → Nat) (ky1 : Nat → Int32), r1 ≤ mc.2.2.2.2.2.2.1 → shf mc.2.2.2.2.2.2.1 r1 mc.2.2.2.2.2.2.2.1 mc.2.2.2.2.2.2.2.2 kw1 ky1 → (r1 = 0 ∨ wt ≤ mc.2.2.2.2.2.2.2.1 (r1 - 1)) → (∀ j, r1 ≤ j → j < mc.2.2.2.2.2.2.1 → mc.2.2.2.2.2.2.2.1 j < wt) → ab_R E G m 5 0 0 84 [(0, .ref 204), (1, .long (lN wt)), (3, .int (nI r1))] [] (hc r s w c b d k t ++ hm ms mk mp mw (mc.1, mc.2.1, mc.2.2.1, mc.2.2.2.1, mc.2.2.2.2.1, mc.2.2.2.2.2.1, mc.2.2.2.2.2.2.1, kw1, ky1) md mt me) := by
    intro r1 kw1 ky1 hr hsh hl hg
    refine a_aload_n X 0 d_Mo_keep_84 rfl rfl ?_
    refine a_get X ff_Mo_41 d_Mo_keep_85 mq_203 rfl ?_
    refine a_iload_n X 3 d_Mo_keep_88 rfl rfl ?_
    refine a_lload_n X 1 d_Mo_keep_89 rfl rfl ?_
    refine a_last X d_Mo_keep_90 mq_214 rfl (ab_ix_nI (by omega) (by decide)) ?_
    refine ab_hp ma_keptWeight ?_
    refine a_iconst X (v := nI 0) d_Mo_keep_91 (by decide) ?_
    refine a_istore X d_Mo_keep_92 (by decide) ?_
    refine ab_sub [(0, .ref 204), (1, .long (lN wt)), (3, .int (nI r1)), (4, .int (nI 0))] rfl ?_
    suffices LQ : ∀ (mm i : Nat) (ky2 : Nat → Int32), i ≤ mp.1 → mp.1 - i < mm → (∀ p, p < i → ky2 (6 * r1 + p) = mw p) → (∀ j p, p < 6 → j ≠ r1 → ky2 (6 * j + p) = ky1 (6 * j + p)) → ab_R E G m 5 0 0 94 [(0, .ref 204), (1, .long (lN wt)), (3, .int (nI r1)), (4, .int (nI i))] [] (hc r s w c b d k t ++ hm ms mk mp mw (mc.1, mc.2.1, mc.2.2.1, mc.2.2.2.1, mc.2.2.2.2.1, mc.2.2.2.2.2.1, mc.2.2.2.2.2.2.1, (va_up kw1 r1 wt), ky2) md mt me) from LQ (mp.1 + 1) 0 ky1 (by omega) (by omega) (fun p hp => absurd hp (by omega)) (fun _ _ _ _ => rfl)
    intro mm
    induction mm with
    | zero => intro i ky2 h1 h2 h3 h4; exfalso; omega
    | succ mm ih =>
      intro i ky2 h1 h2 h3 h4
      refine a_iload X d_Mo_keep_94 rfl ?_
      refine a_aload_n X 0 d_Mo_keep_96 rfl rfl ?_
      refine a_get X ff_Mo_82 d_Mo_keep_97 mq_203 rfl ?_
      refine a_icmp_geN X 128 (by omega) (by omega) d_Mo_keep_100 (by decide) (fun c100 => ?_) (fun c100 => ?_)
      ·
        obtain rfl : i = mp.1 := by omega
        have hfin : ∀ j, j ≠ r1 → va_up kw1 r1 wt j = kw1 j := fun j hj => by show (if j = r1 then wt else kw1 j) = kw1 j; rw [if_neg hj]
        have hself : va_up kw1 r1 wt r1 = wt := by show (if r1 = r1 then wt else kw1 r1) = wt; rw [if_pos rfl]
        have hsh2 : shf mc.2.2.2.2.2.2.1 r1 mc.2.2.2.2.2.2.2.1 mc.2.2.2.2.2.2.2.2 (va_up kw1 r1 wt) ky2 := ⟨fun j hj => ⟨(hfin j (by omega)).trans (hsh.1 j hj).1, fun p hp => (h4 j p hp (by omega)).trans ((hsh.1 j hj).2 p hp)⟩, fun j hj hj2 => ⟨(hfin j (by omega)).trans (hsh.2 j hj hj2).1, fun p hp => (h4 j p hp (by omega)).trans ((hsh.2 j hj hj2).2 p hp)⟩⟩
        refine a_aload_n X 0 d_Mo_keep_128 rfl rfl ?_
        refine a_aload_n X 0 d_Mo_keep_129 rfl rfl ?_
        refine a_get X ff_Mo_113 d_Mo_keep_130 mq_203 rfl ?_
        refine a_bipush X (v := nI 10) d_Mo_keep_133 (by decide) ?_
        refine a_icmp_geN X 147 (Nat.lt_of_le_of_lt hK (by omega)) (by omega) d_Mo_keep_135 (by decide) (fun c135 => ?_) (fun c135 => ?_)
        ·
          have c135 : 10 ≤ mc.2.2.2.2.2.2.1 := c135
          refine a_bipush X (v := nI 10) d_Mo_keep_147 (by decide) ?_
          refine a_put X ff_Mo_113 d_Mo_keep_149 mq_203 (Nat.le_of_ble_eq_true rfl) rfl rfl ?_
          refine ab_hp mo_set ?_
          exact a_vret X d_Mo_keep_152 (Nat.le_refl _) (Nat.le_refl _) ⟨r1, va_up kw1 r1 wt, ky2, hr, hl, hg, hsh2, hself, h3, rfl, by first | rw [if_pos c135] | rw [if_neg (Nat.not_lt.mpr c135)]⟩
        ·
          have c135 : mc.2.2.2.2.2.2.1 < 10 := c135
          refine a_aload_n X 0 d_Mo_keep_138 rfl rfl ?_
          refine a_get X ff_Mo_113 d_Mo_keep_139 mq_203 rfl ?_
          refine a_iconst X (v := nI 1) d_Mo_keep_142 (by decide) ?_
          refine a_iadd X d_Mo_keep_143 ?_
          refine ab_topi (nI_add _ _) ?_
          refine a_goto X 149 d_Mo_keep_144 (by decide) ?_
          refine a_put X ff_Mo_113 d_Mo_keep_149 mq_203 (Nat.le_of_ble_eq_true rfl) rfl rfl ?_
          refine ab_hp mo_set ?_
          exact a_vret X d_Mo_keep_152 (Nat.le_refl _) (Nat.le_refl _) ⟨r1, va_up kw1 r1 wt, ky2, hr, hl, hg, hsh2, hself, h3, rfl, by first | rw [if_pos c135] | rw [if_neg (Nat.not_lt.mpr c135)]⟩
      ·
        refine a_aload_n X 0 d_Mo_keep_103 rfl rfl ?_
        refine a_get X ff_Mo_44 d_Mo_keep_104 mq_203 rfl ?_
        refine a_bipush X (v := nI 6) d_Mo_keep_107 (by decide) ?_
        refine a_iload_n X 3 d_Mo_keep_109 rfl rfl ?_
        refine a_imul X d_Mo_keep_110 ?_
        refine ab_topi (pk_mul _ _) ?_
        refine a_iload X d_Mo_keep_111 rfl ?_
        refine a_iadd X d_Mo_keep_113 ?_
        refine ab_topi (nI_add _ _) ?_
        refine a_aload_n X 0 d_Mo_keep_114 rfl rfl ?_
        refine a_get X ff_Mo_28 d_Mo_keep_115 mq_203 rfl ?_
        refine a_iload X d_Mo_keep_118 rfl ?_
        refine a_iald X d_Mo_keep_120 mq_210 rfl (ab_ix_nI (by omega) (by decide)) ?_
        refine a_iast X d_Mo_keep_121 mq_215 rfl (ab_ix_nI (by omega) (by decide)) ?_
        refine ab_hp ma_keptWay ?_
        refine a_incN X d_Mo_keep_122 rfl (by decide) ?_
        refine a_goto X 94 d_Mo_keep_125 (by decide) ?_
        refine ab_sub [(0, .ref 204), (1, .long (lN wt)), (3, .int (nI r1)), (4, .int (nI (i + 1)))] rfl ?_
        exact ih (i + 1) (upd ky2 (6 * r1 + i) (mw i)) (by omega) (by omega) (fun p hp => by
          by_cases e : p = i
          · rw [e, pk_us]
          · rw [pk_un (by omega)]; exact h3 p (by omega)) (fun j p hp hj => by
          rw [pk_un (by omega)]; exact h4 j p hp hj)
  suffices LP : ∀ (r1 : Nat) (kw1 : Nat → Nat) (ky1 : Nat → Int32), r1 ≤ mc.2.2.2.2.2.2.1 → shf mc.2.2.2.2.2.2.1 r1 mc.2.2.2.2.2.2.2.1 mc.2.2.2.2.2.2.2.2 kw1 ky1 → (∀ j, r1 ≤ j → j < mc.2.2.2.2.2.2.1 → mc.2.2.2.2.2.2.2.1 j < wt) → ab_R E G m 5 0 0 5 [(0, .ref 204), (1, .long (lN wt)), (3, .int (nI r1))] [] (hc r s w c b d k t ++ hm ms mk mp mw (mc.1, mc.2.1, mc.2.2.1, mc.2.2.2.1, mc.2.2.2.2.1, mc.2.2.2.2.2.1, mc.2.2.2.2.2.2.1, kw1, ky1) md mt me) from LP mc.2.2.2.2.2.2.1 mc.2.2.2.2.2.2.2.1 mc.2.2.2.2.2.2.2.2 (Nat.le_refl _) ⟨fun j _ => ⟨rfl, fun p _ => rfl⟩, fun j h1 h2 => absurd h1 (by omega)⟩ (fun j h1 h2 => absurd h1 (by omega))
  intro r1
  induction r1 with
  | zero =>
    intro kw1 ky1 hr hsh hg
    refine a_iload_n X 3 d_Mo_keep_5 rfl rfl ?_
    refine a_if_leN X 84 (by omega) d_Mo_keep_6 (by decide) (fun c6 => ?_) (fun c6 => ?_)
    ·
      exact ab_sub _ rfl (J84 0 kw1 ky1 (by omega) hsh (Or.inl rfl) hg)
    ·
      exact absurd c6 (by omega)
  | succ r1 ih =>
    intro kw1 ky1 hr hsh hg
    have hk1 : kw1 r1 = mc.2.2.2.2.2.2.2.1 r1 := (hsh.1 r1 (by omega)).1
    refine a_iload_n X 3 d_Mo_keep_5 rfl rfl ?_
    refine a_if_leN X 84 (by omega) d_Mo_keep_6 (by decide) (fun c6 => ?_) (fun c6 => ?_)
    ·
      exact absurd c6 (by omega)
    ·
      refine a_aload_n X 0 d_Mo_keep_9 rfl rfl ?_
      refine a_get X ff_Mo_41 d_Mo_keep_10 mq_203 rfl ?_
      refine a_iload_n X 3 d_Mo_keep_13 rfl rfl ?_
      refine a_iconst X (v := nI 1) d_Mo_keep_14 (by decide) ?_
      refine a_isub X d_Mo_keep_15 ?_
      refine ab_topi (pk_sub (by omega)) ?_
      refine a_lald X d_Mo_keep_16 mq_214 rfl (ab_ix_nI (j := r1 + 1 - 1) (by omega) (by decide)) ?_
      refine ab_topl (congrArg lN (show kw1 (r1 + 1 - 1) = mc.2.2.2.2.2.2.2.1 r1 from hk1)) ?_
      refine a_lload_n X 1 d_Mo_keep_17 rfl rfl ?_
      refine a_lc_ge X 84 (hb r1 (by omega)) hwt d_Mo_keep_18 d_Mo_keep_19 (by decide) (fun c18 => ?_) (fun c18 => ?_)
      ·
        exact ab_sub _ rfl (J84 (r1 + 1) kw1 ky1 hr hsh (Or.inr c18) hg)
      ·
        refine a_aload_n X 0 d_Mo_keep_22 rfl rfl ?_
        refine a_get X ff_Mo_41 d_Mo_keep_23 mq_203 rfl ?_
        refine a_iload_n X 3 d_Mo_keep_26 rfl rfl ?_
        refine a_aload_n X 0 d_Mo_keep_27 rfl rfl ?_
        refine a_get X ff_Mo_41 d_Mo_keep_28 mq_203 rfl ?_
        refine a_iload_n X 3 d_Mo_keep_31 rfl rfl ?_
        refine a_iconst X (v := nI 1) d_Mo_keep_32 (by decide) ?_
        refine a_isub X d_Mo_keep_33 ?_
        refine ab_topi (pk_sub (by omega)) ?_
        refine a_lald X d_Mo_keep_34 mq_214 rfl (ab_ix_nI (j := r1 + 1 - 1) (by omega) (by decide)) ?_
        refine ab_topl (congrArg lN (show kw1 (r1 + 1 - 1) = mc.2.2.2.2.2.2.2.1 r1 from hk1)) ?_
        refine a_last X d_Mo_keep_35 mq_214 rfl (ab_ix_nI (by omega) (by decide)) ?_
        refine ab_hp ma_keptWeight ?_
        refine a_iconst X (v := nI 0) d_Mo_keep_36 (by decide) ?_
        refine a_istore X d_Mo_keep_37 (by decide) ?_
        refine ab_sub [(0, .ref 204), (1, .long (lN wt)), (3, .int (nI (r1 + 1))), (4, .int (nI 0))] rfl ?_
        suffices LQ : ∀ (mm i : Nat) (ky2 : Nat → Int32), i ≤ 6 → 6 - i < mm → (∀ p, p < i → ky2 (6 * (r1 + 1) + p) = mc.2.2.2.2.2.2.2.2 (6 * r1 + p)) → (∀ j p, p < 6 → j ≠ r1 + 1 → ky2 (6 * j + p) = ky1 (6 * j + p)) → ab_R E G m 5 0 0 39 [(0, .ref 204), (1, .long (lN wt)), (3, .int (nI (r1 + 1))), (4, .int (nI i))] [] (hc r s w c b d k t ++ hm ms mk mp mw (mc.1, mc.2.1, mc.2.2.1, mc.2.2.2.1, mc.2.2.2.2.1, mc.2.2.2.2.2.1, mc.2.2.2.2.2.2.1, (va_up kw1 (r1 + 1) (mc.2.2.2.2.2.2.2.1 r1)), ky2) md mt me) from LQ 7 0 ky1 (by omega) (by omega) (fun p hp => absurd hp (by omega)) (fun _ _ _ _ => rfl)
        intro mm
        induction mm with
        | zero => intro i ky2 h1 h2 h3 h4; exfalso; omega
        | succ mm ih2 =>
          intro i ky2 h1 h2 h3 h4
          refine a_iload X d_Mo_keep_39 rfl ?_
          refine a_bipush X (v := nI 6) d_Mo_keep_41 (by decide) ?_
          refine a_icmp_geN X 78 (by omega) (by omega) d_Mo_keep_43 (by decide) (fun c43 => ?_) (fun c43 => ?_)
          ·
            obtain rfl : i = 6 := by omega
            refine a_decN X d_Mo_keep_78 rfl (by decide) ?_
            refine a_goto X 5 d_Mo_keep_81 (by decide) ?_
            refine ab_sub [(0, .ref 204), (1, .long (lN wt)), (3, .int (nI r1))] rfl ?_
            have hfin : ∀ j, j ≠ r1 + 1 → va_up kw1 (r1 + 1) (mc.2.2.2.2.2.2.2.1 r1) j = kw1 j := fun j hj => by show (if j = r1 + 1 then _ else kw1 j) = kw1 j; rw [if_neg hj]
            refine ih (va_up kw1 (r1 + 1) (mc.2.2.2.2.2.2.2.1 r1)) ky2 (by omega) ⟨fun j hj => ⟨(hfin j (by omega)).trans (hsh.1 j (by omega)).1, fun p hp => (h4 j p hp (by omega)).trans ((hsh.1 j (by omega)).2 p hp)⟩, fun j hj hj2 => ?_⟩ (fun j h1 h2 => ?_)
            · by_cases e : j = r1 + 1
              · subst e
                exact ⟨by show (if r1 + 1 = r1 + 1 then mc.2.2.2.2.2.2.2.1 r1 else _) = mc.2.2.2.2.2.2.2.1 (r1 + 1 - 1); rw [if_pos rfl]; rfl, fun p hp => h3 p hp⟩
              · exact ⟨(hfin j e).trans (hsh.2 j (by omega) hj2).1, fun p hp => (h4 j p hp e).trans ((hsh.2 j (by omega) hj2).2 p hp)⟩
            · by_cases e : j = r1
              · rw [e]; exact c18
              · exact hg j (by omega) h2
          ·
            refine a_aload_n X 0 d_Mo_keep_46 rfl rfl ?_
            refine a_get X ff_Mo_44 d_Mo_keep_47 mq_203 rfl ?_
            refine a_bipush X (v := nI 6) d_Mo_keep_50 (by decide) ?_
            refine a_iload_n X 3 d_Mo_keep_52 rfl rfl ?_
            refine a_imul X d_Mo_keep_53 ?_
            refine ab_topi (pk_mul _ _) ?_
            refine a_iload X d_Mo_keep_54 rfl ?_
            refine a_iadd X d_Mo_keep_56 ?_
            refine ab_topi (nI_add _ _) ?_
            refine a_aload_n X 0 d_Mo_keep_57 rfl rfl ?_
            refine a_get X ff_Mo_44 d_Mo_keep_58 mq_203 rfl ?_
            refine a_bipush X (v := nI 6) d_Mo_keep_61 (by decide) ?_
            refine a_iload_n X 3 d_Mo_keep_63 rfl rfl ?_
            refine a_iconst X (v := nI 1) d_Mo_keep_64 (by decide) ?_
            refine a_isub X d_Mo_keep_65 ?_
            refine ab_topi (pk_sub (by omega)) ?_
            refine a_imul X d_Mo_keep_66 ?_
            refine ab_topi (pk_mul _ _) ?_
            refine a_iload X d_Mo_keep_67 rfl ?_
            refine a_iadd X d_Mo_keep_69 ?_
            refine ab_topi (nI_add _ _) ?_
            refine a_iald X d_Mo_keep_70 mq_215 rfl (ab_ix_nI (by omega) (by decide)) ?_
            refine a_iast X d_Mo_keep_71 mq_215 rfl (ab_ix_nI (by omega) (by decide)) ?_
            refine ab_hp ma_keptWay ?_
            refine a_incN X d_Mo_keep_72 rfl (by decide) ?_
            refine a_goto X 39 d_Mo_keep_75 (by decide) ?_
            refine ab_sub [(0, .ref 204), (1, .long (lN wt)), (3, .int (nI (r1 + 1))), (4, .int (nI (i + 1)))] rfl ?_
            exact ih2 (i + 1) _ (by omega) (by omega) (fun p hp => by
              by_cases e : p = i
              · rw [e, pk_us]
                show ky2 (6 * (r1 + 1 - 1) + i) = _
                rw [show r1 + 1 - 1 = r1 by omega, h4 r1 i (by omega) (by omega)]
                exact (hsh.1 r1 (by omega)).2 i (by omega)
              · rw [pk_un (by omega)]; exact h3 p (by omega)) (fun j p hp hj => by
              rw [pk_un (by omega)]; exact h4 j p hp hj)
