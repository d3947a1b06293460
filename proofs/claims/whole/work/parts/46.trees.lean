set_option maxHeartbeats 4000000 in
set_option maxRecDepth 20000 in
theorem c_tre {E : ab_E} {l : Launch} {r : hR} {s : hS} {w c : hW} {b : hB} {d : hD} {k : hK} {t : hT} {Z : List ab_C} (hr : okR r) (hK : okK k) (hk : t.2.2.2.2.2.2.2 = 0 ∨ t.2.2.2.2.2.2.2 = 1 ∧ okT k r t.1 t.2.1 t.2.2.1) : ab_Con E l y_Tt_refresh b_Tt_refresh 4 none 3 78 [.ref 181] (hc r s w c b d k t ++ Z) 0 0 (fun v h1 => v = none ∧ ∃ su ct be : hG, okT k r su ct be ∧ (t.2.2.2.2.2.2.2 = 1 → su = t.1 ∧ ct = t.2.1 ∧ be = t.2.2.1) ∧ h1 = hc r s w c b d k (su, ct, be, t.2.2.2.1, t.2.2.2.2.1, t.2.2.2.2.2.1, t.2.2.2.2.2.2.1, 1) ++ Z) := by
  obtain ⟨hn, hsg⟩ := hr
  have hq := hK.1
  have hk1 : t.2.2.2.2.2.2.2 < 2 ^ 31 := by rcases hk with h | h <;> omega
  refine ab_con (own := "HiddenRows$TreeTables") (ini := false) (by decide) (fun h => by cases h) rfl (Nat.le_of_ble_eq_true rfl) ?_
  intro G m X
  show ab_R E G m 4 0 0 0 [(0, .ref 181)] [] (hc r s w c b d k t ++ Z)
  refine a_aload_n X 0 d_Tt_refresh_0 rfl rfl ?_
  refine a_get X ff_Tt_36 d_Tt_refresh_1 hq_180 rfl ?_
  refine a_if_eqN X 8 (by omega) d_Tt_refresh_4 (by decide) (fun c4 => ?_) (fun c4 => ?_)
  ·
    refine a_aload_n X 0 d_Tt_refresh_8 rfl rfl ?_
    refine a_iconst X (v := nI 1) d_Tt_refresh_9 (by decide) ?_
    refine a_put X ff_Tt_36 d_Tt_refresh_10 hq_180 (Nat.le_of_ble_eq_true rfl) rfl rfl ?_
    refine ab_hp hs_t ?_
    refine a_iconst X (v := nI 1) d_Tt_refresh_13 (by decide) ?_
    refine a_istore_n X 1 d_Tt_refresh_14 rfl (by decide) ?_
    refine ab_sub [(0, .ref 181), (1, .int (nI 1))] rfl ?_
    suffices LP : ∀ (mm pl : Nat) (su ct be : hG), 1 ≤ pl → pl ≤ r.2.2 + 1 → r.2.2 + 1 - pl < mm → invT k r su ct be (fun _ a b => b - a + 1 < pl) → ab_R E G m 4 0 0 15 [(0, .ref 181), (1, .int (nI pl))] [] (hc r s w c b d k (su, ct, be, t.2.2.2.1, t.2.2.2.2.1, t.2.2.2.2.2.1, t.2.2.2.2.2.2.1, 1) ++ Z) from LP (r.2.2 + 2) 1 t.1 t.2.1 t.2.2.1 (by omega) (by omega) (by omega) (fun kk a b h1 h2 h3 h4 => by omega)
    intro mm
    induction mm with
    | zero => intro pl su ct be h1 h2 h3 hI; exfalso; omega
    | succ mm ih =>
      intro pl su ct be h1 h2 h3 hI
      refine a_iload_n X 1 d_Tt_refresh_15 rfl rfl ?_
      refine a_aload_n X 0 d_Tt_refresh_16 rfl rfl ?_
      refine a_get X ff_Tt_40 d_Tt_refresh_17 hq_180 rfl ?_
      refine a_get X ff_Tt_51 d_Tt_refresh_20 hq_1 rfl ?_
      refine a_icmp_gtN X 83 (by omega) (by omega) d_Tt_refresh_23 (by decide) (fun c23 => ?_) (fun c23 => ?_)
      ·
        exact a_vret X d_Tt_refresh_83 (Nat.le_refl _) (Nat.le_refl _) ⟨rfl, su, ct, be, hI.mono (fun kk a b _ _ h _ => by omega), fun q => by omega, rfl⟩
      ·
        refine a_iconst X (v := nI 0) d_Tt_refresh_26 (by decide) ?_
        refine a_istore_n X 2 d_Tt_refresh_27 rfl (by decide) ?_
        refine ab_sub [(0, .ref 181), (1, .int (nI pl)), (2, .int (nI 0))] rfl ?_
        suffices LP2 : ∀ (m2 i : Nat) (su ct be : hG), i + pl ≤ r.2.2 + 1 → r.2.2 + 1 - (i + pl) < m2 → invT k r su ct be (fun _ a b => b - a + 1 < pl ∨ (b - a + 1 = pl ∧ a < i)) → ab_R E G m 4 0 0 28 [(0, .ref 181), (1, .int (nI pl)), (2, .int (nI i))] [] (hc r s w c b d k (su, ct, be, t.2.2.2.1, t.2.2.2.2.1, t.2.2.2.2.2.1, t.2.2.2.2.2.2.1, 1) ++ Z) from LP2 (r.2.2 + 2) 0 su ct be (by omega) (by omega) (hI.mono (fun kk a b _ _ _ h => by omega))
        clear hI su ct be
        intro m2
        induction m2 with
        | zero => intro i su ct be h4 h5 hI; exfalso; omega
        | succ m2 ih2 =>
          intro i su ct be h4 h5 hI
          refine a_iload_n X 2 d_Tt_refresh_28 rfl rfl ?_
          refine a_iload_n X 1 d_Tt_refresh_29 rfl rfl ?_
          refine a_iadd X d_Tt_refresh_30 ?_
          refine ab_topi (nI_add _ _) ?_
          refine a_aload_n X 0 d_Tt_refresh_31 rfl rfl ?_
          refine a_get X ff_Tt_40 d_Tt_refresh_32 hq_180 rfl ?_
          refine a_get X ff_Tt_51 d_Tt_refresh_35 hq_1 rfl ?_
          refine a_icmp_gtN X 77 (by omega) (by omega) d_Tt_refresh_38 (by decide) (fun c38 => ?_) (fun c38 => ?_)
          ·
            refine a_incN X d_Tt_refresh_77 rfl (by decide) ?_
            refine a_goto X 15 d_Tt_refresh_80 (by decide) ?_
            refine ab_sub [(0, .ref 181), (1, .int (nI (pl + 1)))] rfl ?_
            exact ih (pl + 1) su ct be (by omega) (by omega) (by omega) (hI.mono (fun kk a b _ _ _ h => by omega))
          ·
            refine a_iconst X (v := nI 0) d_Tt_refresh_41 (by decide) ?_
            refine a_istore_n X 3 d_Tt_refresh_42 rfl (by decide) ?_
            refine ab_sub [(0, .ref 181), (1, .int (nI pl)), (2, .int (nI i)), (3, .int (nI 0))] rfl ?_
            suffices LP3 : ∀ (m3 kd : Nat) (su ct be : hG), kd ≤ k.2.2 → k.2.2 - kd < m3 → invT k r su ct be (fun kk a b => b - a + 1 < pl ∨ (b - a + 1 = pl ∧ (a < i ∨ (a = i ∧ kk < kd)))) → ab_R E G m 4 0 0 43 [(0, .ref 181), (1, .int (nI pl)), (2, .int (nI i)), (3, .int (nI kd))] [] (hc r s w c b d k (su, ct, be, t.2.2.2.1, t.2.2.2.2.1, t.2.2.2.2.2.1, t.2.2.2.2.2.2.1, 1) ++ Z) from LP3 (k.2.2 + 1) 0 su ct be (by omega) (by omega) (hI.mono (fun kk a b _ _ _ h => by omega))
            clear hI su ct be
            intro m3
            induction m3 with
            | zero => intro kd su ct be h6 h7 hI; exfalso; omega
            | succ m3 ih3 =>
              intro kd su ct be h6 h7 hI
              refine a_iload_n X 3 d_Tt_refresh_43 rfl rfl ?_
              refine a_aload_n X 0 d_Tt_refresh_44 rfl rfl ?_
              refine a_get X ff_Tt_44 d_Tt_refresh_45 hq_180 rfl ?_
              refine a_get X ff_Tt_60 d_Tt_refresh_48 hq_169 rfl ?_
              refine a_icmp_geN X 71 (by omega) (by omega) d_Tt_refresh_51 (by decide) (fun c51 => ?_) (fun c51 => ?_)
              ·
                refine a_incN X d_Tt_refresh_71 rfl (by decide) ?_
                refine a_goto X 28 d_Tt_refresh_74 (by decide) ?_
                refine ab_sub [(0, .ref 181), (1, .int (nI pl)), (2, .int (nI (i + 1)))] rfl ?_
                exact ih2 (i + 1) su ct be (by omega) (by omega) (hI.mono (fun kk a b _ _ _ h => by omega))
              ·
                refine a_aload_n X 0 d_Tt_refresh_54 rfl rfl ?_
                refine a_iload_n X 3 d_Tt_refresh_55 rfl rfl ?_
                refine a_iload_n X 2 d_Tt_refresh_56 rfl rfl ?_
                refine a_iload_n X 2 d_Tt_refresh_57 rfl rfl ?_
                refine a_iload_n X 1 d_Tt_refresh_58 rfl rfl ?_
                refine a_iadd X d_Tt_refresh_59 ?_
                refine ab_topi (nI_add _ _) ?_
                refine a_iconst X (v := nI 1) d_Tt_refresh_60 (by decide) ?_
                refine a_isub X d_Tt_refresh_61 ?_
                refine ab_topi (pk_sub (by omega)) ?_
                have hDD : ∀ kk a b, kk < k.2.2 → a ≤ b → b < r.2.2 → b - a < i + pl - 1 - i → (fun kk a b => b - a + 1 < pl ∨ (b - a + 1 = pl ∧ (a < i ∨ (a = i ∧ kk < kd)))) kk a b := fun kk a b _ _ _ h => Or.inl (by omega)
                refine a_callV X (a := 180) (As := [.int (nI _), .int (nI _), .int (nI _)]) hq_180 rfl fb_Tt_fill lk_Tt_64 im_Tt_fill se_Tt_fill (c_fil (j := i + pl - 1) hK.1 (by omega) (by omega) (by omega) hsg hK.2.1 hK.2.2 (fun y a b hy ha hb => Nat.lt_of_le_of_lt (invT_bb hI hK hn (by omega) (by omega) hDD y a b hy ha hb) (p64 (by omega)))) rfl rfl (Nat.le_of_ble_eq_true rfl) (by decide) (by decide) (Nat.le_refl _) (Nat.le_refl _) d_Tt_refresh_62 (fun v h1 hp => ?_)
                obtain ⟨rfl, rfl⟩ := hp
                refine a_incN X d_Tt_refresh_65 rfl (by decide) ?_
                refine a_goto X 43 d_Tt_refresh_68 (by decide) ?_
                refine ab_sub [(0, .ref 181), (1, .int (nI pl)), (2, .int (nI i)), (3, .int (nI (kd + 1)))] rfl ?_
                exact ih3 (kd + 1) _ _ _ (by omega) (by omega) (invT_step (j := i + pl - 1) hI hK hn (by omega) (by omega) hDD (fun kk a b hab h => by
                  by_cases e : kk = kd ∧ a = i ∧ b = i + pl - 1
                  · exact Or.inl e
                  · exact Or.inr ⟨by omega, by omega, e⟩))
  ·
    exact a_vret X d_Tt_refresh_7 (Nat.le_refl _) (Nat.le_refl _) ⟨rfl, t.1, t.2.1, t.2.2.1, (hk.resolve_left (by omega)).2, fun _ => ⟨rfl, rfl, rfl⟩, by rw [← (hk.resolve_left (by omega)).1]⟩
set_option maxHeartbeats 4000000 in
set_option maxRecDepth 20000 in
theorem c_soa {E : ab_E} {l : Launch} {r : hR} {s : hS} {w c : hW} {b : hB} {d : hD} {k : hK} {t : hT} {Z : List ab_C} {kd : Nat} (hkd : kd < 4) (hr : okR r) (hK : okK k) (hk : t.2.2.2.2.2.2.2 = 0 ∨ t.2.2.2.2.2.2.2 = 1 ∧ okT k r t.1 t.2.1 t.2.2.1) : ab_Con E l y_Tt_sumOfAll b_Tt_sumOfAll 2 (some .long) 4 101 [.ref 181, .int (nI kd)] (hc r s w c b d k t ++ Z) 0 0 (fun v h1 => ∃ su ct be : hG, okT k r su ct be ∧ (t.2.2.2.2.2.2.2 = 1 → su = t.1 ∧ ct = t.2.1 ∧ be = t.2.2.1) ∧ v = some (.long (lN (if r.2.2 = 0 then 0 else su kd (0 * 6 + (r.2.2 - 1))))) ∧ h1 = hc r s w c b d k (su, ct, be, t.2.2.2.1, t.2.2.2.2.1, t.2.2.2.2.2.1, t.2.2.2.2.2.2.1, 1) ++ Z) := by
  refine ab_con (own := "HiddenRows$TreeTables") (ini := false) (by decide) (fun h => by cases h) rfl (Nat.le_of_ble_eq_true rfl) ?_
  intro G m X
  show ab_R E G m 2 0 0 0 [(0, .ref 181), (1, .int (nI kd))] [] (hc r s w c b d k t ++ Z)
  refine a_aload_n X 0 d_Tt_sumOfAll_0 rfl rfl ?_
  refine a_callV X (a := 180) (As := []) hq_180 rfl fb_Tt_refresh lk_Tt_48 im_Tt_refresh se_Tt_refresh (c_tre hr hK hk) rfl rfl (Nat.le_of_ble_eq_true rfl) (by decide) (by decide) (Nat.le_refl _) (Nat.le_refl _) d_Tt_sumOfAll_1 (fun v h1 hp => ?_)
  obtain ⟨rfl, su, ct, be, hok, hsm, rfl⟩ := hp
  refine a_aload_n X 0 d_Tt_sumOfAll_4 rfl rfl ?_
  refine a_get X ff_Tt_40 d_Tt_sumOfAll_5 hq_180 rfl ?_
  refine a_get X ff_Tt_51 d_Tt_sumOfAll_8 hq_1 rfl ?_
  have hn := hr.1
  refine a_if_leN X 37 (by omega) d_Tt_sumOfAll_11 (by decide) (fun c11 => ?_) (fun c11 => ?_)
  ·
    refine a_lconst X (v := lN 0) d_Tt_sumOfAll_37 (by decide) ?_
    exact a_lret X d_Tt_sumOfAll_38 (Nat.le_refl _) (Nat.le_refl _) ⟨su, ct, be, hok, hsm, by first | rw [if_pos (by omega)] | (rw [if_neg (by omega)]), rfl⟩
  ·
    refine a_aload_n X 0 d_Tt_sumOfAll_14 rfl rfl ?_
    refine a_get X ff_Tt_13 d_Tt_sumOfAll_15 hq_180 rfl ?_
    refine a_iload_n X 1 d_Tt_sumOfAll_18 rfl rfl ?_
    refine a_aald X d_Tt_sumOfAll_19 hq_181 rfl rfl (ab_ix_nI (by omega) (by decide)) (hg_su (by omega)) ?_
    refine a_iconst X (v := nI 0) d_Tt_sumOfAll_20 (by decide) ?_
    refine a_aload_n X 0 d_Tt_sumOfAll_21 rfl rfl ?_
    refine a_get X ff_Tt_40 d_Tt_sumOfAll_22 hq_180 rfl ?_
    refine a_get X ff_Tt_51 d_Tt_sumOfAll_25 hq_1 rfl ?_
    refine a_iconst X (v := nI 1) d_Tt_sumOfAll_28 (by decide) ?_
    refine a_isub X d_Tt_sumOfAll_29 ?_
    refine ab_topi (pk_sub (by omega)) ?_
    refine a_callS X (As := [.int (nI _), .int (nI _)]) fb_Tt_spanOf lk_Tt_56 sm_Tt_spanOf (c_Tt_spanOf) rfl rfl (Nat.le_of_ble_eq_true rfl) (by decide) (by decide) (Nat.le_refl _) (Nat.le_refl _) d_Tt_sumOfAll_30 (fun v h1 hp => ?_)
    obtain ⟨rfl, rfl⟩ := hp
    refine a_lald X d_Tt_sumOfAll_33 (hr_su (by omega)) rfl (ab_ix_nI (by omega) (by decide)) ?_
    refine a_goto X 38 d_Tt_sumOfAll_34 (by decide) ?_
    exact a_lret X d_Tt_sumOfAll_38 (Nat.le_refl _) (Nat.le_refl _) ⟨su, ct, be, hok, hsm, by first | rw [if_pos (by omega)] | (rw [if_neg (by omega)]), rfl⟩
set_option maxHeartbeats 4000000 in
set_option maxRecDepth 20000 in
theorem c_coa {E : ab_E} {l : Launch} {r : hR} {s : hS} {w c : hW} {b : hB} {d : hD} {k : hK} {t : hT} {Z : List ab_C} {kd : Nat} (hkd : kd < 4) (hr : okR r) (hK : okK k) (hk : t.2.2.2.2.2.2.2 = 0 ∨ t.2.2.2.2.2.2.2 = 1 ∧ okT k r t.1 t.2.1 t.2.2.1) : ab_Con E l y_Tt_countOfAll b_Tt_countOfAll 2 (some .long) 4 101 [.ref 181, .int (nI kd)] (hc r s w c b d k t ++ Z) 0 0 (fun v h1 => ∃ su ct be : hG, okT k r su ct be ∧ (t.2.2.2.2.2.2.2 = 1 → su = t.1 ∧ ct = t.2.1 ∧ be = t.2.2.1) ∧ v = some (.long (lN (if r.2.2 = 0 then 0 else ct kd (0 * 6 + (r.2.2 - 1))))) ∧ h1 = hc r s w c b d k (su, ct, be, t.2.2.2.1, t.2.2.2.2.1, t.2.2.2.2.2.1, t.2.2.2.2.2.2.1, 1) ++ Z) := by
  refine ab_con (own := "HiddenRows$TreeTables") (ini := false) (by decide) (fun h => by cases h) rfl (Nat.le_of_ble_eq_true rfl) ?_
  intro G m X
  show ab_R E G m 2 0 0 0 [(0, .ref 181), (1, .int (nI kd))] [] (hc r s w c b d k t ++ Z)
  refine a_aload_n X 0 d_Tt_countOfAll_0 rfl rfl ?_
  refine a_callV X (a := 180) (As := []) hq_180 rfl fb_Tt_refresh lk_Tt_48 im_Tt_refresh se_Tt_refresh (c_tre hr hK hk) rfl rfl (Nat.le_of_ble_eq_true rfl) (by decide) (by decide) (Nat.le_refl _) (Nat.le_refl _) d_Tt_countOfAll_1 (fun v h1 hp => ?_)
  obtain ⟨rfl, su, ct, be, hok, hsm, rfl⟩ := hp
  refine a_aload_n X 0 d_Tt_countOfAll_4 rfl rfl ?_
  refine a_get X ff_Tt_40 d_Tt_countOfAll_5 hq_180 rfl ?_
  refine a_get X ff_Tt_51 d_Tt_countOfAll_8 hq_1 rfl ?_
  have hn := hr.1
  refine a_if_leN X 37 (by omega) d_Tt_countOfAll_11 (by decide) (fun c11 => ?_) (fun c11 => ?_)
  ·
    refine a_lconst X (v := lN 0) d_Tt_countOfAll_37 (by decide) ?_
    exact a_lret X d_Tt_countOfAll_38 (Nat.le_refl _) (Nat.le_refl _) ⟨su, ct, be, hok, hsm, by first | rw [if_pos (by omega)] | (rw [if_neg (by omega)]), rfl⟩
  ·
    refine a_aload_n X 0 d_Tt_countOfAll_14 rfl rfl ?_
    refine a_get X ff_Tt_16 d_Tt_countOfAll_15 hq_180 rfl ?_
    refine a_iload_n X 1 d_Tt_countOfAll_18 rfl rfl ?_
    refine a_aald X d_Tt_countOfAll_19 hq_186 rfl rfl (ab_ix_nI (by omega) (by decide)) (hg_ct (by omega)) ?_
    refine a_iconst X (v := nI 0) d_Tt_countOfAll_20 (by decide) ?_
    refine a_aload_n X 0 d_Tt_countOfAll_21 rfl rfl ?_
    refine a_get X ff_Tt_40 d_Tt_countOfAll_22 hq_180 rfl ?_
    refine a_get X ff_Tt_51 d_Tt_countOfAll_25 hq_1 rfl ?_
    refine a_iconst X (v := nI 1) d_Tt_countOfAll_28 (by decide) ?_
    refine a_isub X d_Tt_countOfAll_29 ?_
    refine ab_topi (pk_sub (by omega)) ?_
    refine a_callS X (As := [.int (nI _), .int (nI _)]) fb_Tt_spanOf lk_Tt_56 sm_Tt_spanOf (c_Tt_spanOf) rfl rfl (Nat.le_of_ble_eq_true rfl) (by decide) (by decide) (Nat.le_refl _) (Nat.le_refl _) d_Tt_countOfAll_30 (fun v h1 hp => ?_)
    obtain ⟨rfl, rfl⟩ := hp
    refine a_lald X d_Tt_countOfAll_33 (hr_ct (by omega)) rfl (ab_ix_nI (by omega) (by decide)) ?_
    refine a_goto X 38 d_Tt_countOfAll_34 (by decide) ?_
    exact a_lret X d_Tt_countOfAll_38 (Nat.le_refl _) (Nat.le_refl _) ⟨su, ct, be, hok, hsm, by first | rw [if_pos (by omega)] | (rw [if_neg (by omega)]), rfl⟩
set_option maxHeartbeats 4000000 in
set_option maxRecDepth 20000 in
theorem c_boa {E : ab_E} {l : Launch} {r : hR} {s : hS} {w c : hW} {b : hB} {d : hD} {k : hK} {t : hT} {Z : List ab_C} {kd : Nat} (hkd : kd < 4) (hr : okR r) (hK : okK k) (hk : t.2.2.2.2.2.2.2 = 0 ∨ t.2.2.2.2.2.2.2 = 1 ∧ okT k r t.1 t.2.1 t.2.2.1) : ab_Con E l y_Tt_bestOfAll b_Tt_bestOfAll 2 (some .long) 4 101 [.ref 181, .int (nI kd)] (hc r s w c b d k t ++ Z) 0 0 (fun v h1 => ∃ su ct be : hG, okT k r su ct be ∧ (t.2.2.2.2.2.2.2 = 1 → su = t.1 ∧ ct = t.2.1 ∧ be = t.2.2.1) ∧ v = some (.long (lN (if r.2.2 = 0 then 0 else be kd (0 * 6 + (r.2.2 - 1))))) ∧ h1 = hc r s w c b d k (su, ct, be, t.2.2.2.1, t.2.2.2.2.1, t.2.2.2.2.2.1, t.2.2.2.2.2.2.1, 1) ++ Z) := by
  refine ab_con (own := "HiddenRows$TreeTables") (ini := false) (by decide) (fun h => by cases h) rfl (Nat.le_of_ble_eq_true rfl) ?_
  intro G m X
  show ab_R E G m 2 0 0 0 [(0, .ref 181), (1, .int (nI kd))] [] (hc r s w c b d k t ++ Z)
  refine a_aload_n X 0 d_Tt_bestOfAll_0 rfl rfl ?_
  refine a_callV X (a := 180) (As := []) hq_180 rfl fb_Tt_refresh lk_Tt_48 im_Tt_refresh se_Tt_refresh (c_tre hr hK hk) rfl rfl (Nat.le_of_ble_eq_true rfl) (by decide) (by decide) (Nat.le_refl _) (Nat.le_refl _) d_Tt_bestOfAll_1 (fun v h1 hp => ?_)
  obtain ⟨rfl, su, ct, be, hok, hsm, rfl⟩ := hp
  refine a_aload_n X 0 d_Tt_bestOfAll_4 rfl rfl ?_
  refine a_get X ff_Tt_40 d_Tt_bestOfAll_5 hq_180 rfl ?_
  refine a_get X ff_Tt_51 d_Tt_bestOfAll_8 hq_1 rfl ?_
  have hn := hr.1
  refine a_if_leN X 37 (by omega) d_Tt_bestOfAll_11 (by decide) (fun c11 => ?_) (fun c11 => ?_)
  ·
    refine a_lconst X (v := lN 0) d_Tt_bestOfAll_37 (by decide) ?_
    exact a_lret X d_Tt_bestOfAll_38 (Nat.le_refl _) (Nat.le_refl _) ⟨su, ct, be, hok, hsm, by first | rw [if_pos (by omega)] | (rw [if_neg (by omega)]), rfl⟩
  ·
    refine a_aload_n X 0 d_Tt_bestOfAll_14 rfl rfl ?_
    refine a_get X ff_Tt_19 d_Tt_bestOfAll_15 hq_180 rfl ?_
    refine a_iload_n X 1 d_Tt_bestOfAll_18 rfl rfl ?_
    refine a_aald X d_Tt_bestOfAll_19 hq_191 rfl rfl (ab_ix_nI (by omega) (by decide)) (hg_be (by omega)) ?_
    refine a_iconst X (v := nI 0) d_Tt_bestOfAll_20 (by decide) ?_
    refine a_aload_n X 0 d_Tt_bestOfAll_21 rfl rfl ?_
    refine a_get X ff_Tt_40 d_Tt_bestOfAll_22 hq_180 rfl ?_
    refine a_get X ff_Tt_51 d_Tt_bestOfAll_25 hq_1 rfl ?_
    refine a_iconst X (v := nI 1) d_Tt_bestOfAll_28 (by decide) ?_
    refine a_isub X d_Tt_bestOfAll_29 ?_
    refine ab_topi (pk_sub (by omega)) ?_
    refine a_callS X (As := [.int (nI _), .int (nI _)]) fb_Tt_spanOf lk_Tt_56 sm_Tt_spanOf (c_Tt_spanOf) rfl rfl (Nat.le_of_ble_eq_true rfl) (by decide) (by decide) (Nat.le_refl _) (Nat.le_refl _) d_Tt_bestOfAll_30 (fun v h1 hp => ?_)
    obtain ⟨rfl, rfl⟩ := hp
    refine a_lald X d_Tt_bestOfAll_33 (hr_be (by omega)) rfl (ab_ix_nI (by omega) (by decide)) ?_
    refine a_goto X 38 d_Tt_bestOfAll_34 (by decide) ?_
    exact a_lret X d_Tt_bestOfAll_38 (Nat.le_refl _) (Nat.le_refl _) ⟨su, ct, be, hok, hsm, by first | rw [if_pos (by omega)] | (rw [if_neg (by omega)]), rfl⟩
