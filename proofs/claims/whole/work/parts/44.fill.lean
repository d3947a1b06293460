theorem leaR_le {k : hK} {kd : Nat} {x : Int32} (h : ∀ i j, k.2.1 i j ≤ 4) : leaR k kd x ≤ 16 := by
  unfold leaR
  split
  · have := sumR_le (g := fun y => k.2.1 kd y) (a := 0) (fun y => h kd y) 4
    omega
  · have := h kd x.toNatClampNeg
    omega
theorem lfR_le {k : hK} {r : hR} {kd i j : Nat} (h : ∀ i j, k.2.1 i j ≤ 4) : lfR k r kd i j ≤ 16 := by
  unfold lfR
  split
  · exact leaR_le h
  · omega
set_option maxHeartbeats 4000000 in
set_option maxRecDepth 20000 in
theorem c_fil {E : ab_E} {l : Launch} {r : hR} {s : hS} {w c : hW} {b : hB} {d : hD} {k : hK} {t : hT} {Z : List ab_C} {kd i j : Nat} (hkq : k.2.2 ≤ 4) (hkd : kd < 4) (hij : i ≤ j) (hj : j < 6) (hsg : ∀ i, i < 6 → r.1 i = -1 ∨ ∃ z, z < 4 ∧ r.1 i = nI z) (hru : ∀ i j, k.1 i j ≤ 4) (hlf4 : ∀ i j, k.2.1 i j ≤ 4) (hbb : ∀ y a b, y < j - i → a < k.2.2 → b < k.2.2 → tS k.1 t.2.2.1 kd (i * 6 + (i + y)) ((i + 1 + y) * 6 + j) a b < 2 ^ 63) : ab_Con E l y_Tt_fill b_Tt_fill 8 none 2 51 [.ref 181, .int (nI kd), .int (nI i), .int (nI j)] (hc r s w c b d k t ++ Z) 0 0 (fun v h1 => v = none ∧ h1 = hc r s w c b d k (up2 t.1 kd (i * 6 + j) (fS k t.1 (lfR k r kd i j) kd i j (j - i)), up2 t.2.1 kd (i * 6 + j) (fC k t.2.1 (lfR k r kd i j) kd i j (j - i)), up2 t.2.2.1 kd (i * 6 + j) (fB k t.2.2.1 (lfR k r kd i j) kd i j (j - i)), t.2.2.2) ++ Z) := by
  refine ab_con (own := "HiddenRows$TreeTables") (ini := false) (by decide) (fun h => by cases h) rfl (Nat.le_of_ble_eq_true rfl) ?_
  intro G m X
  show ab_R E G m 8 0 0 0 [(0, .ref 181), (1, .int (nI kd)), (2, .int (nI i)), (3, .int (nI j))] [] (hc r s w c b d k t ++ Z)
  refine a_iload_n X 2 d_Tt_fill_0 rfl rfl ?_
  refine a_iload_n X 3 d_Tt_fill_1 rfl rfl ?_
  refine a_callS X (As := [.int (nI _), .int (nI _)]) fb_Tt_spanOf lk_Tt_56 sm_Tt_spanOf (c_Tt_spanOf) rfl rfl (Nat.le_of_ble_eq_true rfl) (by decide) (by decide) (Nat.le_refl _) (Nat.le_refl _) d_Tt_fill_2 (fun v h1 hp => ?_)
  obtain ⟨rfl, rfl⟩ := hp
  refine a_istore X d_Tt_fill_5 (by decide) ?_
  refine a_iload_n X 2 d_Tt_fill_7 rfl rfl ?_
  refine a_iload_n X 3 d_Tt_fill_8 rfl rfl ?_
  refine a_icmp_neN X 33 (by omega) (by omega) d_Tt_fill_9 (by decide) (fun c9 => ?_) (fun c9 => ?_)
  ·
    obtain ⟨lf, hlf⟩ : ∃ lf, lf = lfR k r kd i j := ⟨_, rfl⟩
    have hlv : 0 = lf := by rw [hlf]; unfold lfR; rw [if_neg (by omega)]
    refine a_lconst X (v := lN 0) d_Tt_fill_33 (by decide) ?_
    have hl16 : lf ≤ 16 := by rw [hlf]; exact lfR_le hlf4
    refine ab_topl (congrArg lN hlv) ?_
    refine a_lstore X d_Tt_fill_34 (by decide) ?_
    refine a_aload_n X 0 d_Tt_fill_36 rfl rfl ?_
    refine a_get X ff_Tt_13 d_Tt_fill_37 hq_180 rfl ?_
    refine a_iload_n X 1 d_Tt_fill_40 rfl rfl ?_
    refine a_aald X d_Tt_fill_41 hq_181 rfl rfl (ab_ix_nI (by omega) (by decide)) (hg_su (by omega)) ?_
    refine a_iload X d_Tt_fill_42 rfl ?_
    refine a_lload X d_Tt_fill_44 rfl ?_
    refine a_last X d_Tt_fill_46 (hr_su (by omega)) rfl (ab_ix_nI (by omega) (by decide)) ?_
    refine ab_hp (hw_su (by omega)) ?_
    refine a_aload_n X 0 d_Tt_fill_47 rfl rfl ?_
    refine a_get X ff_Tt_16 d_Tt_fill_48 hq_180 rfl ?_
    refine a_iload_n X 1 d_Tt_fill_51 rfl rfl ?_
    refine a_aald X d_Tt_fill_52 hq_186 rfl rfl (ab_ix_nI (by omega) (by decide)) (hg_ct (by omega)) ?_
    refine a_iload X d_Tt_fill_53 rfl ?_
    refine a_lload X d_Tt_fill_55 rfl ?_
    refine a_lconst X (v := lN 1) d_Tt_fill_57 (by decide) ?_
    refine a_lmin X lk_Tt_74 sm_Jm_lmin in_Jm co_Jm_lmin d_Tt_fill_58 (by decide) (Nat.le_of_ble_eq_true rfl) (Nat.le_refl _) (Nat.le_refl _) ?_
    refine ab_topl (lminN (by omega) (by omega)) ?_
    refine a_last X d_Tt_fill_61 (hr_ct (by omega)) rfl (ab_ix_nI (by omega) (by decide)) ?_
    refine ab_hp (hw_ct (by omega)) ?_
    refine a_aload_n X 0 d_Tt_fill_62 rfl rfl ?_
    refine a_get X ff_Tt_19 d_Tt_fill_63 hq_180 rfl ?_
    refine a_iload_n X 1 d_Tt_fill_66 rfl rfl ?_
    refine a_aald X d_Tt_fill_67 hq_191 rfl rfl (ab_ix_nI (by omega) (by decide)) (hg_be (by omega)) ?_
    refine a_iload X d_Tt_fill_68 rfl ?_
    refine a_lload X d_Tt_fill_70 rfl ?_
    refine a_last X d_Tt_fill_72 (hr_be (by omega)) rfl (ab_ix_nI (by omega) (by decide)) ?_
    refine ab_hp (hw_be (by omega)) ?_
    refine a_iload_n X 2 d_Tt_fill_73 rfl rfl ?_
    refine a_iconst X (v := nI 1) d_Tt_fill_74 (by decide) ?_
    refine a_iadd X d_Tt_fill_75 ?_
    refine ab_topi (nI_add _ _) ?_
    refine a_istore X d_Tt_fill_76 (by decide) ?_
    refine ab_sub [(0, .ref 181), (1, .int (nI kd)), (2, .int (nI i)), (3, .int (nI j)), (4, .int (nI (i * 6 + j))), (7, .int (nI (i + 1 + 0)))] rfl ?_
    suffices LP : ∀ (mm e : Nat), e ≤ j - i → j - i - e < mm → ab_R E G m 8 0 0 78 [(0, .ref 181), (1, .int (nI kd)), (2, .int (nI i)), (3, .int (nI j)), (4, .int (nI (i * 6 + j))), (7, .int (nI (i + 1 + e)))] [] (hc r s w c b d k (up2 t.1 kd (i * 6 + j) (fS k t.1 lf kd i j e), up2 t.2.1 kd (i * 6 + j) (fC k t.2.1 lf kd i j e), up2 t.2.2.1 kd (i * 6 + j) (fB k t.2.2.1 lf kd i j e), t.2.2.2) ++ Z) from LP (j - i + 1) 0 (by omega) (by omega)
    intro mm
    induction mm with
    | zero => intro e h1 h2; exfalso; omega
    | succ mm ih =>
      intro e h1 h2
      refine a_iload X d_Tt_fill_78 rfl ?_
      refine a_iload_n X 3 d_Tt_fill_80 rfl rfl ?_
      refine a_icmp_gtN X 111 (by omega) (by omega) d_Tt_fill_81 (by decide) (fun c81 => ?_) (fun c81 => ?_)
      ·
        exact a_vret X d_Tt_fill_111 (Nat.le_refl _) (Nat.le_refl _) ⟨rfl, by rw [show e = j - i by omega, ← hlf]⟩
      ·
        refine a_aload_n X 0 d_Tt_fill_84 rfl rfl ?_
        refine a_iload_n X 1 d_Tt_fill_85 rfl rfl ?_
        refine a_iload X d_Tt_fill_86 rfl ?_
        refine a_iload_n X 2 d_Tt_fill_88 rfl rfl ?_
        refine a_iload X d_Tt_fill_89 rfl ?_
        refine a_iconst X (v := nI 1) d_Tt_fill_91 (by decide) ?_
        refine a_isub X d_Tt_fill_92 ?_
        refine ab_topi (pk_sub (by omega)) ?_
        refine ab_topi (congrArg nI (show i + 1 + e - 1 = i + e by omega)) ?_
        refine a_callS X (As := [.int (nI _), .int (nI _)]) fb_Tt_spanOf lk_Tt_56 sm_Tt_spanOf (c_Tt_spanOf) rfl rfl (Nat.le_of_ble_eq_true rfl) (by decide) (by decide) (Nat.le_refl _) (Nat.le_refl _) d_Tt_fill_93 (fun v h1 hp => ?_)
        obtain ⟨rfl, rfl⟩ := hp
        refine a_iload X d_Tt_fill_96 rfl ?_
        refine a_iload_n X 3 d_Tt_fill_98 rfl rfl ?_
        refine a_callS X (As := [.int (nI _), .int (nI _)]) fb_Tt_spanOf lk_Tt_56 sm_Tt_spanOf (c_Tt_spanOf) rfl rfl (Nat.le_of_ble_eq_true rfl) (by decide) (by decide) (Nat.le_refl _) (Nat.le_refl _) d_Tt_fill_99 (fun v h1 hp => ?_)
        obtain ⟨rfl, rfl⟩ := hp
        have n1 : i * 6 + (i + e) ≠ i * 6 + j := by omega
        have n2 : (i + 1 + e) * 6 + j ≠ i * 6 + j := by omega
        refine a_callV X (a := 180) (As := [.int (nI _), .int (nI _), .int (nI _), .int (nI _)]) hq_180 rfl fb_Tt_addSplit lk_Tt_80 im_Tt_addSplit se_Tt_addSplit (c_spl hkq hkd (by omega) (by omega) (by omega) n1 n2 hru (by show up2 _ _ _ _ _ _ < _; rw [up2_self]; exact mxF_lt (by omega) (fun y a b hy ha hb => hbb y a b (by omega) ha hb)) (fun a b ha hb => by show tS k.1 (up2 _ _ _ _) _ _ _ a b < _; rw [tS_up n1 n2]; exact hbb e a b (by omega) ha hb)) rfl rfl (Nat.le_of_ble_eq_true rfl) (by decide) (by decide) (Nat.le_refl _) (Nat.le_refl _) d_Tt_fill_102 (fun v h1 hp => ?_)
        obtain ⟨rfl, rfl⟩ := hp
        refine ab_hp (show _ = hc r s w c b d k (up2 t.1 kd (i * 6 + j) (fS k t.1 lf kd i j (e + 1)), up2 t.2.1 kd (i * 6 + j) (fC k t.2.1 lf kd i j (e + 1)), up2 t.2.2.1 kd (i * 6 + j) (fB k t.2.2.1 lf kd i j (e + 1)), t.2.2.2) ++ Z from by
          simp only [up2_up2, up2_self, tS_up n1 n2, tC_up n1 n2]
          rw [fS_succ, fC_succ, fB_succ]) ?_
        refine a_incN X d_Tt_fill_105 rfl (by decide) ?_
        refine a_goto X 78 d_Tt_fill_108 (by decide) ?_
        refine ab_sub [(0, .ref 181), (1, .int (nI kd)), (2, .int (nI i)), (3, .int (nI j)), (4, .int (nI (i * 6 + j))), (7, .int (nI (i + 1 + (e + 1))))] rfl ?_
        exact ih (e + 1) (by omega) (by omega)
  ·
    obtain ⟨lf, hlf⟩ : ∃ lf, lf = lfR k r kd i j := ⟨_, rfl⟩
    have hlv : leaR k kd (r.1 i) = lf := by rw [hlf]; unfold lfR; rw [if_pos (by omega)]
    refine a_aload_n X 0 d_Tt_fill_12 rfl rfl ?_
    refine a_get X ff_Tt_44 d_Tt_fill_13 hq_180 rfl ?_
    refine a_iload_n X 1 d_Tt_fill_16 rfl rfl ?_
    refine a_aload_n X 0 d_Tt_fill_17 rfl rfl ?_
    refine a_get X ff_Tt_40 d_Tt_fill_18 hq_180 rfl ?_
    refine a_get X ff_Tt_68 d_Tt_fill_21 hq_1 rfl ?_
    refine a_iload_n X 2 d_Tt_fill_24 rfl rfl ?_
    refine a_iald X d_Tt_fill_25 hq_2 rfl (ab_ix_nI (by omega) (by decide)) ?_
    refine a_callV X (a := 169) (As := [.int (nI _), .int _]) hq_169 rfl fb_Ki_leafOf lk_Tt_71 im_Ki_leafOf se_Ki_leafOf (c_lof (by omega) (hsg i (by omega))) rfl rfl (Nat.le_of_ble_eq_true rfl) (by decide) (by decide) (Nat.le_refl _) (Nat.le_refl _) d_Tt_fill_26 (fun v h1 hp => ?_)
    obtain ⟨rfl, rfl⟩ := hp
    refine a_i2l X d_Tt_fill_29 ?_
    refine ab_topl (nI_l (by have := leaR_le (kd := kd) (x := r.1 i) hlf4; omega)) ?_
    refine a_goto X 34 d_Tt_fill_30 (by decide) ?_
    have hl16 : lf ≤ 16 := by rw [hlf]; exact lfR_le hlf4
    refine ab_topl (congrArg lN hlv) ?_
    refine a_lstore X d_Tt_fill_34 (by decide) ?_
    refine a_aload_n X 0 d_Tt_fill_36 rfl rfl ?_
    refine a_get X ff_Tt_13 d_Tt_fill_37 hq_180 rfl ?_
    refine a_iload_n X 1 d_Tt_fill_40 rfl rfl ?_
    refine a_aald X d_Tt_fill_41 hq_181 rfl rfl (ab_ix_nI (by omega) (by decide)) (hg_su (by omega)) ?_
    refine a_iload X d_Tt_fill_42 rfl ?_
    refine a_lload X d_Tt_fill_44 rfl ?_
    refine a_last X d_Tt_fill_46 (hr_su (by omega)) rfl (ab_ix_nI (by omega) (by decide)) ?_
    refine ab_hp (hw_su (by omega)) ?_
    refine a_aload_n X 0 d_Tt_fill_47 rfl rfl ?_
    refine a_get X ff_Tt_16 d_Tt_fill_48 hq_180 rfl ?_
    refine a_iload_n X 1 d_Tt_fill_51 rfl rfl ?_
    refine a_aald X d_Tt_fill_52 hq_186 rfl rfl (ab_ix_nI (by omega) (by decide)) (hg_ct (by omega)) ?_
    refine a_iload X d_Tt_fill_53 rfl ?_
    refine a_lload X d_Tt_fill_55 rfl ?_
    refine a_lconst X (v := lN 1) d_Tt_fill_57 (by decide) ?_
    refine a_lmin X lk_Tt_74 sm_Jm_lmin in_Jm co_Jm_lmin d_Tt_fill_58 (by decide) (Nat.le_of_ble_eq_true rfl) (Nat.le_refl _) (Nat.le_refl _) ?_
    refine ab_topl (lminN (by omega) (by omega)) ?_
    refine a_last X d_Tt_fill_61 (hr_ct (by omega)) rfl (ab_ix_nI (by omega) (by decide)) ?_
    refine ab_hp (hw_ct (by omega)) ?_
    refine a_aload_n X 0 d_Tt_fill_62 rfl rfl ?_
    refine a_get X ff_Tt_19 d_Tt_fill_63 hq_180 rfl ?_
    refine a_iload_n X 1 d_Tt_fill_66 rfl rfl ?_
    refine a_aald X d_Tt_fill_67 hq_191 rfl rfl (ab_ix_nI (by omega) (by decide)) (hg_be (by omega)) ?_
    refine a_iload X d_Tt_fill_68 rfl ?_
    refine a_lload X d_Tt_fill_70 rfl ?_
    refine a_last X d_Tt_fill_72 (hr_be (by omega)) rfl (ab_ix_nI (by omega) (by decide)) ?_
    refine ab_hp (hw_be (by omega)) ?_
    refine a_iload_n X 2 d_Tt_fill_73 rfl rfl ?_
    refine a_iconst X (v := nI 1) d_Tt_fill_74 (by decide) ?_
    refine a_iadd X d_Tt_fill_75 ?_
    refine ab_topi (nI_add _ _) ?_
    refine a_istore X d_Tt_fill_76 (by decide) ?_
    refine ab_sub [(0, .ref 181), (1, .int (nI kd)), (2, .int (nI i)), (3, .int (nI j)), (4, .int (nI (i * 6 + j))), (7, .int (nI (i + 1 + 0)))] rfl ?_
    suffices LP : ∀ (mm e : Nat), e ≤ j - i → j - i - e < mm → ab_R E G m 8 0 0 78 [(0, .ref 181), (1, .int (nI kd)), (2, .int (nI i)), (3, .int (nI j)), (4, .int (nI (i * 6 + j))), (7, .int (nI (i + 1 + e)))] [] (hc r s w c b d k (up2 t.1 kd (i * 6 + j) (fS k t.1 lf kd i j e), up2 t.2.1 kd (i * 6 + j) (fC k t.2.1 lf kd i j e), up2 t.2.2.1 kd (i * 6 + j) (fB k t.2.2.1 lf kd i j e), t.2.2.2) ++ Z) from LP (j - i + 1) 0 (by omega) (by omega)
    intro mm
    induction mm with
    | zero => intro e h1 h2; exfalso; omega
    | succ mm ih =>
      intro e h1 h2
      refine a_iload X d_Tt_fill_78 rfl ?_
      refine a_iload_n X 3 d_Tt_fill_80 rfl rfl ?_
      refine a_icmp_gtN X 111 (by omega) (by omega) d_Tt_fill_81 (by decide) (fun c81 => ?_) (fun c81 => ?_)
      ·
        exact a_vret X d_Tt_fill_111 (Nat.le_refl _) (Nat.le_refl _) ⟨rfl, by rw [show e = j - i by omega, ← hlf]⟩
      ·
        refine a_aload_n X 0 d_Tt_fill_84 rfl rfl ?_
        refine a_iload_n X 1 d_Tt_fill_85 rfl rfl ?_
        refine a_iload X d_Tt_fill_86 rfl ?_
        refine a_iload_n X 2 d_Tt_fill_88 rfl rfl ?_
        refine a_iload X d_Tt_fill_89 rfl ?_
        refine a_iconst X (v := nI 1) d_Tt_fill_91 (by decide) ?_
        refine a_isub X d_Tt_fill_92 ?_
        refine ab_topi (pk_sub (by omega)) ?_
        refine ab_topi (congrArg nI (show i + 1 + e - 1 = i + e by omega)) ?_
        refine a_callS X (As := [.int (nI _), .int (nI _)]) fb_Tt_spanOf lk_Tt_56 sm_Tt_spanOf (c_Tt_spanOf) rfl rfl (Nat.le_of_ble_eq_true rfl) (by decide) (by decide) (Nat.le_refl _) (Nat.le_refl _) d_Tt_fill_93 (fun v h1 hp => ?_)
        obtain ⟨rfl, rfl⟩ := hp
        refine a_iload X d_Tt_fill_96 rfl ?_
        refine a_iload_n X 3 d_Tt_fill_98 rfl rfl ?_
        refine a_callS X (As := [.int (nI _), .int (nI _)]) fb_Tt_spanOf lk_Tt_56 sm_Tt_spanOf (c_Tt_spanOf) rfl rfl (Nat.le_of_ble_eq_true rfl) (by decide) (by decide) (Nat.le_refl _) (Nat.le_refl _) d_Tt_fill_99 (fun v h1 hp => ?_)
        obtain ⟨rfl, rfl⟩ := hp
        have n1 : i * 6 + (i + e) ≠ i * 6 + j := by omega
        have n2 : (i + 1 + e) * 6 + j ≠ i * 6 + j := by omega
        refine a_callV X (a := 180) (As := [.int (nI _), .int (nI _), .int (nI _), .int (nI _)]) hq_180 rfl fb_Tt_addSplit lk_Tt_80 im_Tt_addSplit se_Tt_addSplit (c_spl hkq hkd (by omega) (by omega) (by omega) n1 n2 hru (by show up2 _ _ _ _ _ _ < _; rw [up2_self]; exact mxF_lt (by omega) (fun y a b hy ha hb => hbb y a b (by omega) ha hb)) (fun a b ha hb => by show tS k.1 (up2 _ _ _ _) _ _ _ a b < _; rw [tS_up n1 n2]; exact hbb e a b (by omega) ha hb)) rfl rfl (Nat.le_of_ble_eq_true rfl) (by decide) (by decide) (Nat.le_refl _) (Nat.le_refl _) d_Tt_fill_102 (fun v h1 hp => ?_)
        obtain ⟨rfl, rfl⟩ := hp
        refine ab_hp (show _ = hc r s w c b d k (up2 t.1 kd (i * 6 + j) (fS k t.1 lf kd i j (e + 1)), up2 t.2.1 kd (i * 6 + j) (fC k t.2.1 lf kd i j (e + 1)), up2 t.2.2.1 kd (i * 6 + j) (fB k t.2.2.1 lf kd i j (e + 1)), t.2.2.2) ++ Z from by
          simp only [up2_up2, up2_self, tS_up n1 n2, tC_up n1 n2]
          rw [fS_succ, fC_succ, fB_succ]) ?_
        refine a_incN X d_Tt_fill_105 rfl (by decide) ?_
        refine a_goto X 78 d_Tt_fill_108 (by decide) ?_
        refine ab_sub [(0, .ref 181), (1, .int (nI kd)), (2, .int (nI i)), (3, .int (nI j)), (4, .int (nI (i * 6 + j))), (7, .int (nI (i + 1 + (e + 1))))] rfl ?_
        exact ih (e + 1) (by omega) (by omega)
