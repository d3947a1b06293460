set_option maxHeartbeats 4000000 in
set_option maxRecDepth 20000 in
theorem c_pus {E : ab_E} {l : Launch} {r : hR} {s : hS} {w c : hW} {b : hB} {d : hD} {k : hK} {t : hT} {Z : List ab_C} {x y : Nat} (hw : t.2.2.2.2.2.2.1 ≤ 6) : ab_Con E l y_Tt_push b_Tt_push 3 none 0 0 [.ref 181, .int (nI x), .int (nI y)] (hc r s w c b d k t ++ Z) 0 0 (fun v h1 => v = none ∧ h1 = hc r s w c b d k (t.1, t.2.1, t.2.2.1, t.2.2.2.1, va_up t.2.2.2.2.1 t.2.2.2.2.2.2.1 x, va_up t.2.2.2.2.2.1 t.2.2.2.2.2.2.1 y, t.2.2.2.2.2.2.1 + 1, t.2.2.2.2.2.2.2) ++ Z) := by
  refine ab_con (own := "HiddenRows$TreeTables") (ini := false) (by decide) (fun h => by cases h) rfl (Nat.le_of_ble_eq_true rfl) ?_
  intro G m X
  show ab_R E G m 3 0 0 0 [(0, .ref 181), (1, .int (nI x)), (2, .int (nI y))] [] (hc r s w c b d k t ++ Z)
  refine a_aload_n X 0 d_Tt_push_0 rfl rfl ?_
  refine a_get X ff_Tt_32 d_Tt_push_1 hq_180 rfl ?_
  refine a_bipush X (v := nI 6) d_Tt_push_4 (by decide) ?_
  refine a_icmp_gtN X 39 (by omega) (by omega) d_Tt_push_6 (by decide) (fun c6 => ?_) (fun c6 => ?_)
  ·
    exfalso
    omega
  ·
    refine a_aload_n X 0 d_Tt_push_9 rfl rfl ?_
    refine a_get X ff_Tt_25 d_Tt_push_10 hq_180 rfl ?_
    refine a_aload_n X 0 d_Tt_push_13 rfl rfl ?_
    refine a_get X ff_Tt_32 d_Tt_push_14 hq_180 rfl ?_
    refine a_iload_n X 1 d_Tt_push_17 rfl rfl ?_
    refine a_iast X d_Tt_push_18 hq_201 rfl (ab_ix_nI (by omega) (by decide)) ?_
    refine ab_hp hs_twk ?_
    refine a_aload_n X 0 d_Tt_push_19 rfl rfl ?_
    refine a_get X ff_Tt_29 d_Tt_push_20 hq_180 rfl ?_
    refine a_aload_n X 0 d_Tt_push_23 rfl rfl ?_
    refine a_get X ff_Tt_32 d_Tt_push_24 hq_180 rfl ?_
    refine a_iload_n X 2 d_Tt_push_27 rfl rfl ?_
    refine a_iast X d_Tt_push_28 hq_202 rfl (ab_ix_nI (show t.2.2.2.2.2.2.1 < 7 by omega) (by decide)) ?_
    refine ab_hp hs_twp ?_
    refine a_aload_n X 0 d_Tt_push_29 rfl rfl ?_
    refine a_dup X d_Tt_push_30 rfl ?_
    refine a_get X ff_Tt_32 d_Tt_push_31 hq_180 rfl ?_
    refine a_iconst X (v := nI 1) d_Tt_push_34 (by decide) ?_
    refine a_iadd X d_Tt_push_35 ?_
    refine ab_topi (nI_add _ _) ?_
    refine a_put X ff_Tt_32 d_Tt_push_36 hq_180 (Nat.le_of_ble_eq_true rfl) rfl rfl ?_
    refine ab_hp hs_t ?_
    exact a_vret X d_Tt_push_39 (Nat.le_refl _) (Nat.le_refl _) ⟨rfl, rfl⟩
set_option maxHeartbeats 4000000 in
set_option maxRecDepth 20000 in
theorem c_bpa {E : ab_E} {l : Launch} {r : hR} {s : hS} {w c : hW} {b : hB} {d : hD} {k : hK} {t : hT} {Z : List ab_C} {kd sp l1 l2 : Nat} (hkq : k.2.2 ≤ 4) (hkd : kd < 4) (hsp : sp < 36) (h1 : l1 < 36) (h2 : l2 < 36) (hru : ∀ i j, k.1 i j ≤ 4) (hb0 : t.2.2.1 kd sp < 2 ^ 63) (hbb : ∀ i j, i < k.2.2 → j < k.2.2 → tS k.1 t.2.2.1 kd l1 l2 i j < 2 ^ 63) : ab_Con E l y_Tt_bestParts b_Tt_bestParts 9 (some .int) 1 21 [.ref 181, .int (nI kd), .int (nI sp), .int (nI l1), .int (nI l2)] (hc r s w c b d k t ++ Z) 0 0 (fun v h1 => ((∃ x y, x < k.2.2 ∧ y < k.2.2 ∧ tS k.1 t.2.2.1 kd l1 l2 x y = t.2.2.1 kd sp ∧ (∀ a e, a < x ∨ (a = x ∧ e < y) → e < k.2.2 → tS k.1 t.2.2.1 kd l1 l2 a e ≠ t.2.2.1 kd sp) ∧ v = some (.int (nI (x * 4 + y)))) ∨ ((∀ a e, a < k.2.2 → e < k.2.2 → tS k.1 t.2.2.1 kd l1 l2 a e ≠ t.2.2.1 kd sp) ∧ v = some (.int (-1)))) ∧ h1 = hc r s w c b d k t ++ Z) := by
  refine ab_con (own := "HiddenRows$TreeTables") (ini := false) (by decide) (fun h => by cases h) rfl (Nat.le_of_ble_eq_true rfl) ?_
  intro G m X
  show ab_R E G m 9 0 0 0 [(0, .ref 181), (1, .int (nI kd)), (2, .int (nI sp)), (3, .int (nI l1)), (4, .int (nI l2))] [] (hc r s w c b d k t ++ Z)
  refine a_iconst X (v := nI 0) d_Tt_bestParts_0 (by decide) ?_
  refine a_istore X d_Tt_bestParts_1 (by decide) ?_
  refine ab_sub [(0, .ref 181), (1, .int (nI kd)), (2, .int (nI sp)), (3, .int (nI l1)), (4, .int (nI l2)), (5, .int (nI 0))] rfl ?_
  suffices LP : ∀ (mm i : Nat), i ≤ k.2.2 → k.2.2 - i < mm → (∀ a e, a < i → e < k.2.2 → tS k.1 t.2.2.1 kd l1 l2 a e ≠ t.2.2.1 kd sp) → ab_R E G m 9 0 0 3 [(0, .ref 181), (1, .int (nI kd)), (2, .int (nI sp)), (3, .int (nI l1)), (4, .int (nI l2)), (5, .int (nI i))] [] (hc r s w c b d k t ++ Z) from LP (k.2.2 + 1) 0 (by omega) (by omega) (fun a e h => by omega)
  intro mm
  induction mm with
  | zero => intro i h1 h2 hN; exfalso; omega
  | succ mm ih =>
    intro i h1 h2 hN
    refine a_iload X d_Tt_bestParts_3 rfl ?_
    refine a_aload_n X 0 d_Tt_bestParts_5 rfl rfl ?_
    refine a_get X ff_Tt_44 d_Tt_bestParts_6 hq_180 rfl ?_
    refine a_get X ff_Tt_60 d_Tt_bestParts_9 hq_169 rfl ?_
    refine a_icmp_geN X 105 (by omega) (by omega) d_Tt_bestParts_12 (by decide) (fun c12 => ?_) (fun c12 => ?_)
    ·
      refine a_iconst X (v := -1) d_Tt_bestParts_105 (by decide) ?_
      exact a_iret X d_Tt_bestParts_106 (Nat.le_refl _) (Nat.le_refl _) ⟨Or.inr ⟨fun a e ha he => hN a e (by omega) he, rfl⟩, rfl⟩
    ·
      refine a_iconst X (v := nI 0) d_Tt_bestParts_15 (by decide) ?_
      refine a_istore X d_Tt_bestParts_16 (by decide) ?_
      refine ab_sub [(0, .ref 181), (1, .int (nI kd)), (2, .int (nI sp)), (3, .int (nI l1)), (4, .int (nI l2)), (5, .int (nI i)), (6, .int (nI 0))] rfl ?_
      suffices LP2 : ∀ (m2 j : Nat), j ≤ k.2.2 → k.2.2 - j < m2 → (∀ a e, a < i ∨ (a = i ∧ e < j) → e < k.2.2 → tS k.1 t.2.2.1 kd l1 l2 a e ≠ t.2.2.1 kd sp) → ab_R E G m 9 0 0 18 [(0, .ref 181), (1, .int (nI kd)), (2, .int (nI sp)), (3, .int (nI l1)), (4, .int (nI l2)), (5, .int (nI i)), (6, .int (nI j))] [] (hc r s w c b d k t ++ Z) from LP2 (k.2.2 + 1) 0 (by omega) (by omega) (fun a e h he => hN a e (by omega) he)
      intro m2
      induction m2 with
      | zero => intro j h3 h4 hM; exfalso; omega
      | succ m2 ih2 =>
        intro j h3 h4 hM
        refine a_iload X d_Tt_bestParts_18 rfl ?_
        refine a_aload_n X 0 d_Tt_bestParts_20 rfl rfl ?_
        refine a_get X ff_Tt_44 d_Tt_bestParts_21 hq_180 rfl ?_
        refine a_get X ff_Tt_60 d_Tt_bestParts_24 hq_169 rfl ?_
        refine a_icmp_geN X 99 (by omega) (by omega) d_Tt_bestParts_27 (by decide) (fun c27 => ?_) (fun c27 => ?_)
        ·
          refine a_incN X d_Tt_bestParts_99 rfl (by decide) ?_
          refine a_goto X 3 d_Tt_bestParts_102 (by decide) ?_
          refine ab_sub [(0, .ref 181), (1, .int (nI kd)), (2, .int (nI sp)), (3, .int (nI l1)), (4, .int (nI l2)), (5, .int (nI (i + 1)))] rfl ?_
          exact ih (i + 1) (by omega) (by omega) (fun a e ha he => hM a e (by omega) he)
        ·
          refine a_aload_n X 0 d_Tt_bestParts_30 rfl rfl ?_
          refine a_get X ff_Tt_44 d_Tt_bestParts_31 hq_180 rfl ?_
          refine a_get X ff_Tt_84 d_Tt_bestParts_34 hq_169 rfl ?_
          refine a_iload_n X 1 d_Tt_bestParts_37 rfl rfl ?_
          refine a_aald X d_Tt_bestParts_38 hq_170 rfl rfl (ab_ix_nI (by omega) (by decide)) (hg_ru (by omega)) ?_
          refine a_iload X d_Tt_bestParts_39 rfl ?_
          refine a_iload X d_Tt_bestParts_41 rfl ?_
          refine a_callS X (As := [.int (nI _), .int (nI _)]) fb_Ki_parts lk_Tt_88 sm_Ki_parts (c_Ki_parts) rfl rfl (Nat.le_of_ble_eq_true rfl) (by decide) (by decide) (Nat.le_refl _) (Nat.le_refl _) d_Tt_bestParts_43 (fun v h1 hp => ?_)
          obtain ⟨rfl, rfl⟩ := hp
          refine a_iald X d_Tt_bestParts_46 (hr_ru (by omega)) rfl (ab_ix_nI (by omega) (by decide)) ?_
          refine a_i2l X d_Tt_bestParts_47 ?_
          refine ab_topl (nI_l (by have := hru kd (i * 4 + j); omega)) ?_
          refine a_lstore X d_Tt_bestParts_48 (by decide) ?_
          refine a_lload X d_Tt_bestParts_50 rfl ?_
          refine a_aload_n X 0 d_Tt_bestParts_52 rfl rfl ?_
          refine a_get X ff_Tt_19 d_Tt_bestParts_53 hq_180 rfl ?_
          refine a_iload X d_Tt_bestParts_56 rfl ?_
          refine a_aald X d_Tt_bestParts_58 hq_191 rfl rfl (ab_ix_nI (by omega) (by decide)) (hg_be (by omega)) ?_
          refine a_iload_n X 3 d_Tt_bestParts_59 rfl rfl ?_
          refine a_lald X d_Tt_bestParts_60 (hr_be (by omega)) rfl (ab_ix_nI (by omega) (by decide)) ?_
          refine a_lmul X d_Tt_bestParts_61 ?_
          refine ab_topl (lN_mul _ _) ?_
          refine a_aload_n X 0 d_Tt_bestParts_62 rfl rfl ?_
          refine a_get X ff_Tt_19 d_Tt_bestParts_63 hq_180 rfl ?_
          refine a_iload X d_Tt_bestParts_66 rfl ?_
          refine a_aald X d_Tt_bestParts_68 hq_191 rfl rfl (ab_ix_nI (by omega) (by decide)) (hg_be (by omega)) ?_
          refine a_iload X d_Tt_bestParts_69 rfl ?_
          refine a_lald X d_Tt_bestParts_71 (hr_be (by omega)) rfl (ab_ix_nI (by omega) (by decide)) ?_
          refine a_lmul X d_Tt_bestParts_72 ?_
          refine ab_topl (lN_mul _ _) ?_
          refine a_aload_n X 0 d_Tt_bestParts_73 rfl rfl ?_
          refine a_get X ff_Tt_19 d_Tt_bestParts_74 hq_180 rfl ?_
          refine a_iload_n X 1 d_Tt_bestParts_77 rfl rfl ?_
          refine a_aald X d_Tt_bestParts_78 hq_191 rfl rfl (ab_ix_nI (by omega) (by decide)) (hg_be (by omega)) ?_
          refine a_iload_n X 2 d_Tt_bestParts_79 rfl rfl ?_
          refine a_lald X d_Tt_bestParts_80 (hr_be (by omega)) rfl (ab_ix_nI (by omega) (by decide)) ?_
          refine a_lc_ne X 93 (hbb i j (by omega) (by omega)) hb0 d_Tt_bestParts_81 d_Tt_bestParts_82 (by decide) (fun c81 => ?_) (fun c81 => ?_)
          ·
            refine a_incN X d_Tt_bestParts_93 rfl (by decide) ?_
            refine a_goto X 18 d_Tt_bestParts_96 (by decide) ?_
            refine ab_sub [(0, .ref 181), (1, .int (nI kd)), (2, .int (nI sp)), (3, .int (nI l1)), (4, .int (nI l2)), (5, .int (nI i)), (6, .int (nI (j + 1)))] rfl ?_
            exact ih2 (j + 1) (by omega) (by omega) (fun a e h he => by
              by_cases q : a = i ∧ e = j
              · rw [q.1, q.2]
                exact c81
              · exact hM a e (by omega) he)
          ·
            refine a_iload X d_Tt_bestParts_85 rfl ?_
            refine a_iload X d_Tt_bestParts_87 rfl ?_
            refine a_callS X (As := [.int (nI _), .int (nI _)]) fb_Ki_parts lk_Tt_88 sm_Ki_parts (c_Ki_parts) rfl rfl (Nat.le_of_ble_eq_true rfl) (by decide) (by decide) (Nat.le_refl _) (Nat.le_refl _) d_Tt_bestParts_89 (fun v h1 hp => ?_)
            obtain ⟨rfl, rfl⟩ := hp
            exact a_iret X d_Tt_bestParts_92 (Nat.le_refl _) (Nat.le_refl _) ⟨Or.inl ⟨i, j, by omega, by omega, c81, fun a e h he => hM a e h he, rfl⟩, rfl⟩
set_option maxHeartbeats 4000000 in
set_option maxRecDepth 20000 in
theorem c_tno {E : ab_E} {l : Launch} {r : hR} {s : hS} {w c : hW} {b : hB} {d : hD} {k : hK} {t : hT} {Z : List ab_C} {kd i j : Nat} (hkq : k.2.2 ≤ 4) (hkd : kd < 4) (hij : i ≤ j) (hj : j < 6) (hwt : t.2.2.2.2.2.2.1 ≤ 5) (hru : ∀ i j, k.1 i j ≤ 4) (hb0 : t.2.2.1 kd (i * 6 + j) < 2 ^ 63) (hbb : ∀ y a b, y < j - i → a < k.2.2 → b < k.2.2 → tS k.1 t.2.2.1 kd (i * 6 + (i + y)) ((i + 1 + y) * 6 + j) a b < 2 ^ 63) : ab_Con E l y_Tt_tellNode b_Tt_tellNode 11 (some .int) 2 49 [.ref 181, .int (nI kd), .int (nI (i * 6 + j))] (hc r s w c b d k t ++ Z) 0 0 (fun v h1 => (∃ e x y, e < j - i ∧ x < k.2.2 ∧ y < k.2.2 ∧ tS k.1 t.2.2.1 kd (i * 6 + (i + e)) ((i + 1 + e) * 6 + j) x y = t.2.2.1 kd (i * 6 + j) ∧ (∀ y1 a c, y1 < e ∨ (y1 = e ∧ (a < x ∨ (a = x ∧ c < y))) → c < k.2.2 → a < k.2.2 → tS k.1 t.2.2.1 kd (i * 6 + (i + y1)) ((i + 1 + y1) * 6 + j) a c ≠ t.2.2.1 kd (i * 6 + j)) ∧ v = some (.int (nI (100 * (i + 1 + e) + 10 * x + y))) ∧ h1 = hc r s w c b d k (t.1, t.2.1, t.2.2.1, t.2.2.2.1, va_up (va_up t.2.2.2.2.1 t.2.2.2.2.2.2.1 y) (t.2.2.2.2.2.2.1 + 1) x, va_up (va_up t.2.2.2.2.2.1 t.2.2.2.2.2.2.1 ((i + 1 + e) * 6 + j)) (t.2.2.2.2.2.2.1 + 1) (i * 6 + (i + e)), t.2.2.2.2.2.2.1 + 1 + 1, t.2.2.2.2.2.2.2) ++ Z) ∨ ((∀ y a c, y < j - i → a < k.2.2 → c < k.2.2 → tS k.1 t.2.2.1 kd (i * 6 + (i + y)) ((i + 1 + y) * 6 + j) a c ≠ t.2.2.1 kd (i * 6 + j)) ∧ v = some (.int (nI 0)) ∧ h1 = hc r s w c b d k t ++ Z)) := by
  refine ab_con (own := "HiddenRows$TreeTables") (ini := false) (by decide) (fun h => by cases h) rfl (Nat.le_of_ble_eq_true rfl) ?_
  intro G m X
  show ab_R E G m 11 0 0 0 [(0, .ref 181), (1, .int (nI kd)), (2, .int (nI (i * 6 + j)))] [] (hc r s w c b d k t ++ Z)
  refine a_iload_n X 2 d_Tt_tellNode_0 rfl rfl ?_
  refine a_bipush X (v := nI 6) d_Tt_tellNode_1 (by decide) ?_
  refine a_idiv X d_Tt_tellNode_3 (by decide) ?_
  refine ab_topi (pk_div (by omega) (by omega) (by omega)) ?_
  refine ab_topi (congrArg nI (show (i * 6 + j) / 6 = i by omega)) ?_
  refine a_istore_n X 3 d_Tt_tellNode_4 rfl (by decide) ?_
  refine a_iload_n X 2 d_Tt_tellNode_5 rfl rfl ?_
  refine a_bipush X (v := nI 6) d_Tt_tellNode_6 (by decide) ?_
  refine a_irem X d_Tt_tellNode_8 (by decide) ?_
  refine ab_topi (pk_rem (by omega) (by omega) (by omega)) ?_
  refine ab_topi (congrArg nI (show (i * 6 + j) % 6 = j by omega)) ?_
  refine a_istore X d_Tt_tellNode_9 (by decide) ?_
  refine a_iload_n X 3 d_Tt_tellNode_11 rfl rfl ?_
  refine a_iconst X (v := nI 1) d_Tt_tellNode_12 (by decide) ?_
  refine a_iadd X d_Tt_tellNode_13 ?_
  refine ab_topi (nI_add _ _) ?_
  refine a_istore X d_Tt_tellNode_14 (by decide) ?_
  refine ab_sub [(0, .ref 181), (1, .int (nI kd)), (2, .int (nI (i * 6 + j))), (3, .int (nI i)), (4, .int (nI j)), (5, .int (nI (i + 1 + 0)))] rfl ?_
  suffices LP : ∀ (mm e : Nat), e ≤ j - i → j - i - e < mm → (∀ y a c, y < e → a < k.2.2 → c < k.2.2 → tS k.1 t.2.2.1 kd (i * 6 + (i + y)) ((i + 1 + y) * 6 + j) a c ≠ t.2.2.1 kd (i * 6 + j)) → ab_R E G m 11 0 0 16 [(0, .ref 181), (1, .int (nI kd)), (2, .int (nI (i * 6 + j))), (3, .int (nI i)), (4, .int (nI j)), (5, .int (nI (i + 1 + e)))] [] (hc r s w c b d k t ++ Z) from LP (j - i + 1) 0 (by omega) (by omega) (fun y a c h => by omega)
  intro mm
  induction mm with
  | zero => intro e h1 h2 hN; exfalso; omega
  | succ mm ih =>
    intro e h1 h2 hN
    refine a_iload X d_Tt_tellNode_16 rfl ?_
    refine a_iload X d_Tt_tellNode_18 rfl ?_
    refine a_icmp_gtN X 108 (by omega) (by omega) d_Tt_tellNode_20 (by decide) (fun c20 => ?_) (fun c20 => ?_)
    ·
      refine a_iconst X (v := nI 0) d_Tt_tellNode_108 (by decide) ?_
      exact a_iret X d_Tt_tellNode_109 (Nat.le_refl _) (Nat.le_refl _) (Or.inr ⟨fun y a c hy ha hc => hN y a c (by omega) ha hc, rfl, rfl⟩)
    ·
      refine a_iload_n X 3 d_Tt_tellNode_23 rfl rfl ?_
      refine a_iload X d_Tt_tellNode_24 rfl ?_
      refine a_iconst X (v := nI 1) d_Tt_tellNode_26 (by decide) ?_
      refine a_isub X d_Tt_tellNode_27 ?_
      refine ab_topi (pk_sub (by omega)) ?_
      refine ab_topi (congrArg nI (show i + 1 + e - 1 = i + e by omega)) ?_
      refine a_callS X (As := [.int (nI _), .int (nI _)]) fb_Tt_spanOf lk_Tt_56 sm_Tt_spanOf (c_Tt_spanOf) rfl rfl (Nat.le_of_ble_eq_true rfl) (by decide) (by decide) (Nat.le_refl _) (Nat.le_refl _) d_Tt_tellNode_28 (fun v h1 hp => ?_)
      obtain ⟨rfl, rfl⟩ := hp
      refine a_istore X d_Tt_tellNode_31 (by decide) ?_
      refine a_iload X d_Tt_tellNode_33 rfl ?_
      refine a_iload X d_Tt_tellNode_35 rfl ?_
      refine a_callS X (As := [.int (nI _), .int (nI _)]) fb_Tt_spanOf lk_Tt_56 sm_Tt_spanOf (c_Tt_spanOf) rfl rfl (Nat.le_of_ble_eq_true rfl) (by decide) (by decide) (Nat.le_refl _) (Nat.le_refl _) d_Tt_tellNode_37 (fun v h1 hp => ?_)
      obtain ⟨rfl, rfl⟩ := hp
      refine a_istore X d_Tt_tellNode_40 (by decide) ?_
      refine a_aload_n X 0 d_Tt_tellNode_42 rfl rfl ?_
      refine a_iload_n X 1 d_Tt_tellNode_43 rfl rfl ?_
      refine a_iload_n X 2 d_Tt_tellNode_44 rfl rfl ?_
      refine a_iload X d_Tt_tellNode_45 rfl ?_
      refine a_iload X d_Tt_tellNode_47 rfl ?_
      refine a_callV X (a := 180) (As := [.int (nI _), .int (nI _), .int (nI _), .int (nI _)]) hq_180 rfl fb_Tt_bestParts lk_Tt_101 im_Tt_bestParts se_Tt_bestParts (c_bpa hkq hkd (by omega) (by omega) (by omega) hru hb0 (fun a c ha hc => hbb e a c (by omega) ha hc)) rfl rfl (Nat.le_of_ble_eq_true rfl) (by decide) (by decide) (Nat.le_refl _) (Nat.le_refl _) d_Tt_tellNode_49 (fun v h1 hp => ?_)
      obtain ⟨hp, rfl⟩ := hp
      rcases hp with ⟨x, y, hx, hy, hxy, hfst, rfl⟩ | ⟨hno, rfl⟩
      ·
        refine a_istore X d_Tt_tellNode_52 (by decide) ?_
        refine a_iload X d_Tt_tellNode_54 rfl ?_
        refine a_if_ltN X 102 (by omega) d_Tt_tellNode_56 (by decide) ?_
        refine a_iload X d_Tt_tellNode_59 rfl ?_
        refine a_iconst X (v := nI 4) d_Tt_tellNode_61 (by decide) ?_
        refine a_idiv X d_Tt_tellNode_62 (by decide) ?_
        refine ab_topi (pk_div (by omega) (by omega) (by omega)) ?_
        refine ab_topi (congrArg nI (show (x * 4 + y) / 4 = x by omega)) ?_
        refine a_istore X d_Tt_tellNode_63 (by decide) ?_
        refine a_iload X d_Tt_tellNode_65 rfl ?_
        refine a_iconst X (v := nI 4) d_Tt_tellNode_67 (by decide) ?_
        refine a_irem X d_Tt_tellNode_68 (by decide) ?_
        refine ab_topi (pk_rem (by omega) (by omega) (by omega)) ?_
        refine ab_topi (congrArg nI (show (x * 4 + y) % 4 = y by omega)) ?_
        refine a_istore X d_Tt_tellNode_69 (by decide) ?_
        refine a_aload_n X 0 d_Tt_tellNode_71 rfl rfl ?_
        refine a_iload X d_Tt_tellNode_72 rfl ?_
        refine a_iload X d_Tt_tellNode_74 rfl ?_
        refine a_callV X (a := 180) (As := [.int (nI _), .int (nI _)]) hq_180 rfl fb_Tt_push lk_Tt_94 im_Tt_push se_Tt_push (c_pus (by omega)) rfl rfl (Nat.le_of_ble_eq_true rfl) (by decide) (by decide) (Nat.le_refl _) (Nat.le_refl _) d_Tt_tellNode_76 (fun v h1 hp => ?_)
        obtain ⟨rfl, rfl⟩ := hp
        refine a_aload_n X 0 d_Tt_tellNode_79 rfl rfl ?_
        refine a_iload X d_Tt_tellNode_80 rfl ?_
        refine a_iload X d_Tt_tellNode_82 rfl ?_
        refine a_callV X (a := 180) (As := [.int (nI _), .int (nI _)]) hq_180 rfl fb_Tt_push lk_Tt_94 im_Tt_push se_Tt_push (c_pus (by show t.2.2.2.2.2.2.1 + 1 ≤ 6; omega)) rfl rfl (Nat.le_of_ble_eq_true rfl) (by decide) (by decide) (Nat.le_refl _) (Nat.le_refl _) d_Tt_tellNode_84 (fun v h1 hp => ?_)
        obtain ⟨rfl, rfl⟩ := hp
        refine a_bipush X (v := nI 100) d_Tt_tellNode_87 (by decide) ?_
        refine a_iload X d_Tt_tellNode_89 rfl ?_
        refine a_imul X d_Tt_tellNode_91 ?_
        refine ab_topi (pk_mul _ _) ?_
        refine a_bipush X (v := nI 10) d_Tt_tellNode_92 (by decide) ?_
        refine a_iload X d_Tt_tellNode_94 rfl ?_
        refine a_imul X d_Tt_tellNode_96 ?_
        refine ab_topi (pk_mul _ _) ?_
        refine a_iadd X d_Tt_tellNode_97 ?_
        refine ab_topi (nI_add _ _) ?_
        refine a_iload X d_Tt_tellNode_98 rfl ?_
        refine a_iadd X d_Tt_tellNode_100 ?_
        refine ab_topi (nI_add _ _) ?_
        exact a_iret X d_Tt_tellNode_101 (Nat.le_refl _) (Nat.le_refl _) (Or.inl ⟨e, x, y, by omega, hx, hy, hxy, fun y1 a c h hc ha => by
          by_cases q : y1 = e
          · subst q
            exact hfst a c (by omega) hc
          · exact hN y1 a c (by omega) (by omega) hc, rfl, rfl⟩)
      ·
        refine a_istore X d_Tt_tellNode_52 (by decide) ?_
        refine a_iload X d_Tt_tellNode_54 rfl ?_
        refine a_if_lt X 102 d_Tt_tellNode_56 (by decide) (fun c56 => ?_) (fun c56 => ?_)
        ·
          refine a_incN X d_Tt_tellNode_102 rfl (by decide) ?_
          refine a_goto X 16 d_Tt_tellNode_105 (by decide) ?_
          refine ab_sub [(0, .ref 181), (1, .int (nI kd)), (2, .int (nI (i * 6 + j))), (3, .int (nI i)), (4, .int (nI j)), (5, .int (nI (i + 1 + (e + 1))))] rfl ?_
          exact ih (e + 1) (by omega) (by omega) (fun y a c hy ha hc => by
            by_cases q : y = e
            · subst q
              exact hno a c ha hc
            · exact hN y a c (by omega) ha hc)
        ·
          exact absurd (by decide) c56
