theorem upC_id (f : hG) (sp q : Nat) : upC f sp q (fun a => f a sp + 0) = f := by
  funext a b
  unfold upC
  split
  · next e =>
    show f a sp + 0 = f a b
    rw [e.1, Nat.add_zero]
  · rfl
set_option maxHeartbeats 4000000 in
set_option maxRecDepth 20000 in
theorem c_aar {E : ab_E} {l : Launch} {r : hR} {s : hS} {w c : hW} {b : hB} {d : hD} {k : hK} {t : hT} {Z : List ab_C} {a e i j : Nat} (hkq : k.2.2 ≤ 4) (hai : a ≤ i) (hij : i ≤ j) (hje : j ≤ e) (he : e < 6) (hru : ∀ i j, k.1 i j ≤ 4) : ab_Con E l y_Tt_addAround b_Tt_addAround 6 none 2 51 [.ref 181, .int (nI a), .int (nI e), .int (nI i), .int (nI j)] (hc r s w c b d k t ++ Z) 0 0 (fun v h1 => v = none ∧ h1 = hc r s w c b d k (t.1, t.2.1, t.2.2.1, upC t.2.2.2.1 (a * 6 + e) k.2.2 (fun kd => t.2.2.2.1 kd (a * 6 + e) + hvF k t.1 t.2.2.2.1 kd a e i j), t.2.2.2.2) ++ Z) := by
  refine ab_con (own := "HiddenRows$TreeTables") (ini := false) (by decide) (fun h => by cases h) rfl (Nat.le_of_ble_eq_true rfl) ?_
  intro G m X
  show ab_R E G m 6 0 0 0 [(0, .ref 181), (1, .int (nI a)), (2, .int (nI e)), (3, .int (nI i)), (4, .int (nI j))] [] (hc r s w c b d k t ++ Z)
  refine a_iload_n X 1 d_Tt_addAround_0 rfl rfl ?_
  refine a_iconst X (v := nI 1) d_Tt_addAround_1 (by decide) ?_
  refine a_iadd X d_Tt_addAround_2 ?_
  refine ab_topi (nI_add _ _) ?_
  refine a_istore X d_Tt_addAround_3 (by decide) ?_
  refine ab_sub [(0, .ref 181), (1, .int (nI a)), (2, .int (nI e)), (3, .int (nI i)), (4, .int (nI j)), (5, .int (nI (a + 1 + 0)))] rfl ?_
  refine ab_hp (show _ = hc r s w c b d k (t.1, t.2.1, t.2.2.1, upC t.2.2.2.1 (a * 6 + e) k.2.2 (fun kd => t.2.2.2.1 kd (a * 6 + e) + sumR (fun y => sum2 (tG k.1 t.1 t.2.2.2.1 kd (a * 6 + (a + y)) ((a + 1 + y) * 6 + e)) k.2.2) 0 0), t.2.2.2.2) ++ Z from by
    show _ = hc r s w c b d k (t.1, t.2.1, t.2.2.1, upC t.2.2.2.1 (a * 6 + e) k.2.2 (fun kd => t.2.2.2.1 kd (a * 6 + e) + 0), t.2.2.2.2) ++ Z
    rw [upC_id]) ?_
  suffices LP : ∀ (mm x : Nat), x ≤ i - a → i - a - x < mm → ab_R E G m 6 0 0 5 [(0, .ref 181), (1, .int (nI a)), (2, .int (nI e)), (3, .int (nI i)), (4, .int (nI j)), (5, .int (nI (a + 1 + x)))] [] (hc r s w c b d k (t.1, t.2.1, t.2.2.1, upC t.2.2.2.1 (a * 6 + e) k.2.2 (fun kd => t.2.2.2.1 kd (a * 6 + e) + sumR (fun y => sum2 (tG k.1 t.1 t.2.2.2.1 kd (a * 6 + (a + y)) ((a + 1 + y) * 6 + e)) k.2.2) 0 x), t.2.2.2.2) ++ Z) from LP (i - a + 1) 0 (by omega) (by omega)
  intro mm
  induction mm with
  | zero => intro x h1 h2; exfalso; omega
  | succ mm ih =>
    intro x h1 h2
    refine a_iload X d_Tt_addAround_5 rfl ?_
    refine a_iload_n X 3 d_Tt_addAround_7 rfl rfl ?_
    refine a_icmp_gtN X 48 (by omega) (by omega) d_Tt_addAround_8 (by decide) (fun c8 => ?_) (fun c8 => ?_)
    ·
      refine a_iload X d_Tt_addAround_48 rfl ?_
      refine a_iconst X (v := nI 1) d_Tt_addAround_50 (by decide) ?_
      refine a_iadd X d_Tt_addAround_51 ?_
      refine ab_topi (nI_add _ _) ?_
      refine a_istore X d_Tt_addAround_52 (by decide) ?_
      refine ab_sub [(0, .ref 181), (1, .int (nI a)), (2, .int (nI e)), (3, .int (nI i)), (4, .int (nI j)), (5, .int (nI (j + 1 + 0)))] rfl ?_
      refine ab_hp (show _ = hc r s w c b d k (t.1, t.2.1, t.2.2.1, upC t.2.2.2.1 (a * 6 + e) k.2.2 (fun kd => t.2.2.2.1 kd (a * 6 + e) + (sumR (fun y => sum2 (tG k.1 t.1 t.2.2.2.1 kd (a * 6 + (a + y)) ((a + 1 + y) * 6 + e)) k.2.2) 0 (i - a) + sumR (fun y => sum2 (tG k.1 t.2.2.2.1 t.1 kd (a * 6 + (j + y)) ((j + 1 + y) * 6 + e)) k.2.2) 0 0)), t.2.2.2.2) ++ Z from by rw [show x = i - a by omega]; rfl) ?_
      clear ih
      suffices LP2 : ∀ (m2 x : Nat), x ≤ e - j → e - j - x < m2 → ab_R E G m 6 0 0 54 [(0, .ref 181), (1, .int (nI a)), (2, .int (nI e)), (3, .int (nI i)), (4, .int (nI j)), (5, .int (nI (j + 1 + x)))] [] (hc r s w c b d k (t.1, t.2.1, t.2.2.1, upC t.2.2.2.1 (a * 6 + e) k.2.2 (fun kd => t.2.2.2.1 kd (a * 6 + e) + (sumR (fun y => sum2 (tG k.1 t.1 t.2.2.2.1 kd (a * 6 + (a + y)) ((a + 1 + y) * 6 + e)) k.2.2) 0 (i - a) + sumR (fun y => sum2 (tG k.1 t.2.2.2.1 t.1 kd (a * 6 + (j + y)) ((j + 1 + y) * 6 + e)) k.2.2) 0 x)), t.2.2.2.2) ++ Z) from LP2 (e - j + 1) 0 (by omega) (by omega)
      intro m2
      induction m2 with
      | zero => intro x h1 h2; exfalso; omega
      | succ m2 ih2 =>
        intro x h1 h2
        refine a_iload X d_Tt_addAround_54 rfl ?_
        refine a_iload_n X 2 d_Tt_addAround_56 rfl rfl ?_
        refine a_icmp_gtN X 97 (by omega) (by omega) d_Tt_addAround_57 (by decide) (fun c57 => ?_) (fun c57 => ?_)
        ·
          exact a_vret X d_Tt_addAround_97 (Nat.le_refl _) (Nat.le_refl _) ⟨rfl, by rw [show x = e - j by omega]; rfl⟩
        ·
          refine a_aload_n X 0 d_Tt_addAround_60 rfl rfl ?_
          refine a_iload_n X 1 d_Tt_addAround_61 rfl rfl ?_
          refine a_iload_n X 2 d_Tt_addAround_62 rfl rfl ?_
          refine a_callS X (As := [.int (nI _), .int (nI _)]) fb_Tt_spanOf lk_Tt_56 sm_Tt_spanOf (c_Tt_spanOf) rfl rfl (Nat.le_of_ble_eq_true rfl) (by decide) (by decide) (Nat.le_refl _) (Nat.le_refl _) d_Tt_addAround_63 (fun v h1 hp => ?_)
          obtain ⟨rfl, rfl⟩ := hp
          refine a_aload_n X 0 d_Tt_addAround_66 rfl rfl ?_
          refine a_get X ff_Tt_22 d_Tt_addAround_67 hq_180 rfl ?_
          refine a_iload_n X 1 d_Tt_addAround_70 rfl rfl ?_
          refine a_iload X d_Tt_addAround_71 rfl ?_
          refine a_iconst X (v := nI 1) d_Tt_addAround_73 (by decide) ?_
          refine a_isub X d_Tt_addAround_74 ?_
          refine ab_topi (pk_sub (by omega)) ?_
          refine ab_topi (congrArg nI (show j + 1 + x - 1 = j + x by omega)) ?_
          refine a_callS X (As := [.int (nI _), .int (nI _)]) fb_Tt_spanOf lk_Tt_56 sm_Tt_spanOf (c_Tt_spanOf) rfl rfl (Nat.le_of_ble_eq_true rfl) (by decide) (by decide) (Nat.le_refl _) (Nat.le_refl _) d_Tt_addAround_75 (fun v h1 hp => ?_)
          obtain ⟨rfl, rfl⟩ := hp
          refine a_aload_n X 0 d_Tt_addAround_78 rfl rfl ?_
          refine a_get X ff_Tt_13 d_Tt_addAround_79 hq_180 rfl ?_
          refine a_iload X d_Tt_addAround_82 rfl ?_
          refine a_iload_n X 2 d_Tt_addAround_84 rfl rfl ?_
          refine a_callS X (As := [.int (nI _), .int (nI _)]) fb_Tt_spanOf lk_Tt_56 sm_Tt_spanOf (c_Tt_spanOf) rfl rfl (Nat.le_of_ble_eq_true rfl) (by decide) (by decide) (Nat.le_refl _) (Nat.le_refl _) d_Tt_addAround_85 (fun v h1 hp => ?_)
          obtain ⟨rfl, rfl⟩ := hp
          have n1 : a * 6 + (j + x) ≠ a * 6 + e := by omega
          have n2 : (j + 1 + x) * 6 + e ≠ a * 6 + e := by omega
          refine a_callV X (a := 180) (As := [.int (nI _), .ref 197, .int (nI _), .ref 182, .int (nI _)]) hq_180 rfl fb_Tt_addProducts lk_Tt_108 im_Tt_addProducts se_Tt_addProducts (c_apr_b hkq (by omega) (by omega) (by omega) n1 n2 hru) rfl rfl (Nat.le_of_ble_eq_true rfl) (by decide) (by decide) (Nat.le_refl _) (Nat.le_refl _) d_Tt_addAround_88 (fun v h1 hp => ?_)
          obtain ⟨rfl, rfl⟩ := hp
          refine ab_hp (show _ = hc r s w c b d k (t.1, t.2.1, t.2.2.1, upC t.2.2.2.1 (a * 6 + e) k.2.2 (fun kd => t.2.2.2.1 kd (a * 6 + e) + (sumR (fun y => sum2 (tG k.1 t.1 t.2.2.2.1 kd (a * 6 + (a + y)) ((a + 1 + y) * 6 + e)) k.2.2) 0 (i - a) + sumR (fun y => sum2 (tG k.1 t.2.2.2.1 t.1 kd (a * 6 + (j + y)) ((j + 1 + y) * 6 + e)) k.2.2) 0 (x + 1))), t.2.2.2.2) ++ Z from by
            refine congrArg (fun z => hc r s w c b d k (t.1, t.2.1, t.2.2.1, z, t.2.2.2.2) ++ Z) ?_
            refine (upC_upC _ _ _ _ _).trans (upC_congr (fun kd hkd => ?_))
            dsimp only
            show upC _ _ _ _ kd (a * 6 + e) + sum2 (tG k.1 (upC _ _ _ _) t.1 kd _ _) k.2.2 = t.2.2.2.1 kd (a * 6 + e) + (_ + (_ + sum2 (tG k.1 t.2.2.2.1 t.1 kd (a * 6 + (j + (0 + x))) ((j + 1 + (0 + x)) * 6 + e)) k.2.2))
            rw [upC_in hkd, tG_upl n1, Nat.zero_add, Nat.add_assoc, Nat.add_assoc]) ?_
          refine a_incN X d_Tt_addAround_91 rfl (by decide) ?_
          refine a_goto X 54 d_Tt_addAround_94 (by decide) ?_
          refine ab_sub [(0, .ref 181), (1, .int (nI a)), (2, .int (nI e)), (3, .int (nI i)), (4, .int (nI j)), (5, .int (nI (j + 1 + (x + 1))))] rfl ?_
          exact ih2 (x + 1) (by omega) (by omega)
    ·
      refine a_aload_n X 0 d_Tt_addAround_11 rfl rfl ?_
      refine a_iload_n X 1 d_Tt_addAround_12 rfl rfl ?_
      refine a_iload_n X 2 d_Tt_addAround_13 rfl rfl ?_
      refine a_callS X (As := [.int (nI _), .int (nI _)]) fb_Tt_spanOf lk_Tt_56 sm_Tt_spanOf (c_Tt_spanOf) rfl rfl (Nat.le_of_ble_eq_true rfl) (by decide) (by decide) (Nat.le_refl _) (Nat.le_refl _) d_Tt_addAround_14 (fun v h1 hp => ?_)
      obtain ⟨rfl, rfl⟩ := hp
      refine a_aload_n X 0 d_Tt_addAround_17 rfl rfl ?_
      refine a_get X ff_Tt_13 d_Tt_addAround_18 hq_180 rfl ?_
      refine a_iload_n X 1 d_Tt_addAround_21 rfl rfl ?_
      refine a_iload X d_Tt_addAround_22 rfl ?_
      refine a_iconst X (v := nI 1) d_Tt_addAround_24 (by decide) ?_
      refine a_isub X d_Tt_addAround_25 ?_
      refine ab_topi (pk_sub (by omega)) ?_
      refine ab_topi (congrArg nI (show a + 1 + x - 1 = a + x by omega)) ?_
      refine a_callS X (As := [.int (nI _), .int (nI _)]) fb_Tt_spanOf lk_Tt_56 sm_Tt_spanOf (c_Tt_spanOf) rfl rfl (Nat.le_of_ble_eq_true rfl) (by decide) (by decide) (Nat.le_refl _) (Nat.le_refl _) d_Tt_addAround_26 (fun v h1 hp => ?_)
      obtain ⟨rfl, rfl⟩ := hp
      refine a_aload_n X 0 d_Tt_addAround_29 rfl rfl ?_
      refine a_get X ff_Tt_22 d_Tt_addAround_30 hq_180 rfl ?_
      refine a_iload X d_Tt_addAround_33 rfl ?_
      refine a_iload_n X 2 d_Tt_addAround_35 rfl rfl ?_
      refine a_callS X (As := [.int (nI _), .int (nI _)]) fb_Tt_spanOf lk_Tt_56 sm_Tt_spanOf (c_Tt_spanOf) rfl rfl (Nat.le_of_ble_eq_true rfl) (by decide) (by decide) (Nat.le_refl _) (Nat.le_refl _) d_Tt_addAround_36 (fun v h1 hp => ?_)
      obtain ⟨rfl, rfl⟩ := hp
      have n1 : a * 6 + (a + x) ≠ a * 6 + e := by omega
      have n2 : (a + 1 + x) * 6 + e ≠ a * 6 + e := by omega
      refine a_callV X (a := 180) (As := [.int (nI _), .ref 182, .int (nI _), .ref 197, .int (nI _)]) hq_180 rfl fb_Tt_addProducts lk_Tt_108 im_Tt_addProducts se_Tt_addProducts (c_apr_a hkq (by omega) (by omega) (by omega) n1 n2 hru) rfl rfl (Nat.le_of_ble_eq_true rfl) (by decide) (by decide) (Nat.le_refl _) (Nat.le_refl _) d_Tt_addAround_39 (fun v h1 hp => ?_)
      obtain ⟨rfl, rfl⟩ := hp
      refine ab_hp (show _ = hc r s w c b d k (t.1, t.2.1, t.2.2.1, upC t.2.2.2.1 (a * 6 + e) k.2.2 (fun kd => t.2.2.2.1 kd (a * 6 + e) + sumR (fun y => sum2 (tG k.1 t.1 t.2.2.2.1 kd (a * 6 + (a + y)) ((a + 1 + y) * 6 + e)) k.2.2) 0 (x + 1)), t.2.2.2.2) ++ Z from by
        refine congrArg (fun z => hc r s w c b d k (t.1, t.2.1, t.2.2.1, z, t.2.2.2.2) ++ Z) ?_
        refine (upC_upC _ _ _ _ _).trans (upC_congr (fun kd hkd => ?_))
        dsimp only
        show upC _ _ _ _ kd (a * 6 + e) + sum2 (tG k.1 t.1 (upC _ _ _ _) kd _ _) k.2.2 = t.2.2.2.1 kd (a * 6 + e) + (_ + sum2 (tG k.1 t.1 t.2.2.2.1 kd (a * 6 + (a + (0 + x))) ((a + 1 + (0 + x)) * 6 + e)) k.2.2)
        rw [upC_in hkd, tG_upr n2, Nat.zero_add, Nat.add_assoc]) ?_
      refine a_incN X d_Tt_addAround_42 rfl (by decide) ?_
      refine a_goto X 5 d_Tt_addAround_45 (by decide) ?_
      refine ab_sub [(0, .ref 181), (1, .int (nI a)), (2, .int (nI e)), (3, .int (nI i)), (4, .int (nI j)), (5, .int (nI (a + 1 + (x + 1))))] rfl ?_
      exact ih (x + 1) (by omega) (by omega)
set_option maxHeartbeats 4000000 in
set_option maxRecDepth 20000 in
theorem c_swi {E : ab_E} {l : Launch} {r : hR} {s : hS} {w c : hW} {b : hB} {d : hD} {k : hK} {t : hT} {Z : List ab_C} {kd wn i j : Nat} (hr : okR r) (hK : okK k) (hk : t.2.2.2.2.2.2.2 = 0 ∨ t.2.2.2.2.2.2.2 = 1 ∧ okT k r t.1 t.2.1 t.2.2.1) (hkd : kd < k.2.2) (hwn : wn < k.2.2) (hij : i ≤ j) (hj : j < r.2.2) : ab_Con E l y_Tt_sumWith b_Tt_sumWith 8 (some .long) 4 101 [.ref 181, .int (nI kd), .int (nI wn), .int (nI i), .int (nI j)] (hc r s w c b d k t ++ Z) 0 0 (fun v h1 => ∃ su ct be ha : hG, okT k r su ct be ∧ (t.2.2.2.2.2.2.2 = 1 → su = t.1 ∧ ct = t.2.1 ∧ be = t.2.2.1) ∧ invH k r.2.2 su ha wn i j (fun _ _ => True) ∧ v = some (.long (lN (ha kd (0 * 6 + (r.2.2 - 1))))) ∧ h1 = hc r s w c b d k (su, ct, be, ha, t.2.2.2.2.1, t.2.2.2.2.2.1, t.2.2.2.2.2.2.1, 1) ++ Z) := by
  have hq4 := hK.1
  have hn6 := hr.1
  refine ab_con (own := "HiddenRows$TreeTables") (ini := false) (by decide) (fun h => by cases h) rfl (Nat.le_of_ble_eq_true rfl) ?_
  intro G m X
  show ab_R E G m 8 0 0 0 [(0, .ref 181), (1, .int (nI kd)), (2, .int (nI wn)), (3, .int (nI i)), (4, .int (nI j))] [] (hc r s w c b d k t ++ Z)
  refine a_aload_n X 0 d_Tt_sumWith_0 rfl rfl ?_
  refine a_callV X (a := 180) (As := []) hq_180 rfl fb_Tt_refresh lk_Tt_48 im_Tt_refresh se_Tt_refresh (c_tre hr hK hk) rfl rfl (Nat.le_of_ble_eq_true rfl) (by decide) (by decide) (Nat.le_refl _) (Nat.le_refl _) d_Tt_sumWith_1 (fun v h1 hp => ?_)
  obtain ⟨rfl, su, ct, be, hok, hsm, rfl⟩ := hp
  have hn := hr.1
  have hq := hK.1
  refine a_iload_n X 3 d_Tt_sumWith_4 rfl rfl ?_
  refine a_istore X d_Tt_sumWith_5 (by decide) ?_
  refine ab_sub [(0, .ref 181), (1, .int (nI kd)), (2, .int (nI wn)), (3, .int (nI i)), (4, .int (nI j)), (5, .int (nI i))] rfl ?_
  refine ab_sub [(0, .ref 181), (1, .int (nI kd)), (2, .int (nI wn)), (3, .int (nI i)), (4, .int (nI j)), (5, .int (nI (i + 1) + (-1)))] (by rw [pk_m1]; rfl) ?_
  suffices LP : ∀ (m1 : Nat) (ha : hG), m1 ≤ i + 1 → invH k r.2.2 su ha wn i j (fun a _ => m1 ≤ a) → ab_R E G m 8 0 0 7 [(0, .ref 181), (1, .int (nI kd)), (2, .int (nI wn)), (3, .int (nI i)), (4, .int (nI j)), (5, .int (nI m1 + (-1)))] [] (hc r s w c b d k (su, ct, be, ha, t.2.2.2.2.1, t.2.2.2.2.2.1, t.2.2.2.2.2.2.1, 1) ++ Z) from LP (i + 1) t.2.2.2.1 (by omega) (fun kd a b h1 h2 h3 h4 h5 => by omega)
  intro m1
  induction m1 with
  | zero =>
    intro ha h1 hI
    refine a_iload X d_Tt_sumWith_7 rfl ?_
    refine a_if_lt X 130 d_Tt_sumWith_9 (by decide) (fun c9 => ?_) (fun c9 => ?_)
    ·
      refine a_aload_n X 0 d_Tt_sumWith_130 rfl rfl ?_
      refine a_get X ff_Tt_40 d_Tt_sumWith_131 hq_180 rfl ?_
      refine a_get X ff_Tt_51 d_Tt_sumWith_134 hq_1 rfl ?_
      refine a_if_leN X 163 (by omega) d_Tt_sumWith_137 (by decide) (fun c137 => ?_) (fun c137 => ?_)
      ·
        exfalso
        omega
      ·
        refine a_aload_n X 0 d_Tt_sumWith_140 rfl rfl ?_
        refine a_get X ff_Tt_22 d_Tt_sumWith_141 hq_180 rfl ?_
        refine a_iload_n X 1 d_Tt_sumWith_144 rfl rfl ?_
        refine a_aald X d_Tt_sumWith_145 hq_196 rfl rfl (ab_ix_nI (by omega) (by decide)) (hg_ha (by omega)) ?_
        refine a_iconst X (v := nI 0) d_Tt_sumWith_146 (by decide) ?_
        refine a_aload_n X 0 d_Tt_sumWith_147 rfl rfl ?_
        refine a_get X ff_Tt_40 d_Tt_sumWith_148 hq_180 rfl ?_
        refine a_get X ff_Tt_51 d_Tt_sumWith_151 hq_1 rfl ?_
        refine a_iconst X (v := nI 1) d_Tt_sumWith_154 (by decide) ?_
        refine a_isub X d_Tt_sumWith_155 ?_
        refine ab_topi (pk_sub (by omega)) ?_
        refine a_callS X (As := [.int (nI _), .int (nI _)]) fb_Tt_spanOf lk_Tt_56 sm_Tt_spanOf (c_Tt_spanOf) rfl rfl (Nat.le_of_ble_eq_true rfl) (by decide) (by decide) (Nat.le_refl _) (Nat.le_refl _) d_Tt_sumWith_156 (fun v h1 hp => ?_)
        obtain ⟨rfl, rfl⟩ := hp
        refine a_lald X d_Tt_sumWith_159 (hr_ha (by omega)) rfl (ab_ix_nI (by omega) (by decide)) ?_
        refine a_goto X 164 d_Tt_sumWith_160 (by decide) ?_
        exact a_lret X d_Tt_sumWith_164 (Nat.le_refl _) (Nat.le_refl _) ⟨su, ct, be, ha, hok, hsm, fun kd a b h1 h2 h3 h4 _ => hI kd a b h1 h2 h3 h4 (Nat.zero_le _), rfl, rfl⟩
    ·
      exact absurd (by decide) c9
  | succ a ih =>
    intro ha h1 hI
    rw [pk_m1 a]
    refine a_iload X d_Tt_sumWith_7 rfl ?_
    refine a_if_ltN X 130 (by omega) d_Tt_sumWith_9 (by decide) ?_
    refine a_iload X d_Tt_sumWith_12 rfl ?_
    refine a_istore X d_Tt_sumWith_14 (by decide) ?_
    refine ab_sub [(0, .ref 181), (1, .int (nI kd)), (2, .int (nI wn)), (3, .int (nI i)), (4, .int (nI j)), (5, .int (nI a)), (6, .int (nI j))] rfl ?_
    suffices LP2 : ∀ (m2 e : Nat) (ha : hG), j ≤ e → e ≤ r.2.2 → r.2.2 - e < m2 → invH k r.2.2 su ha wn i j (fun x y => a + 1 ≤ x ∨ (x = a ∧ y < e)) → ab_R E G m 8 0 0 16 [(0, .ref 181), (1, .int (nI kd)), (2, .int (nI wn)), (3, .int (nI i)), (4, .int (nI j)), (5, .int (nI a)), (6, .int (nI e))] [] (hc r s w c b d k (su, ct, be, ha, t.2.2.2.2.1, t.2.2.2.2.2.1, t.2.2.2.2.2.2.1, 1) ++ Z) from LP2 (r.2.2 + 1) j ha (by omega) (by omega) (by omega) (fun kd x y g1 g2 g3 g4 g5 => hI kd x y g1 g2 g3 g4 (by omega))
    clear hI ha
    intro m2
    induction m2 with
    | zero => intro e ha h2 h3 h4 hI; exfalso; omega
    | succ m2 ih2 =>
      intro e ha h2 h3 h4 hI
      refine a_iload X d_Tt_sumWith_16 rfl ?_
      refine a_aload_n X 0 d_Tt_sumWith_18 rfl rfl ?_
      refine a_get X ff_Tt_40 d_Tt_sumWith_19 hq_180 rfl ?_
      refine a_get X ff_Tt_51 d_Tt_sumWith_22 hq_1 rfl ?_
      refine a_icmp_geN X 124 (by omega) (by omega) d_Tt_sumWith_25 (by decide) (fun c25 => ?_) (fun c25 => ?_)
      ·
        refine a_iinc X d_Tt_sumWith_124 rfl (v := nI a + (-1)) rfl (by decide) ?_
        refine a_goto X 7 d_Tt_sumWith_127 (by decide) ?_
        refine ab_sub [(0, .ref 181), (1, .int (nI kd)), (2, .int (nI wn)), (3, .int (nI i)), (4, .int (nI j)), (5, .int (nI a + (-1)))] rfl ?_
        exact ih ha (by omega) (fun kd x y g1 g2 g3 g4 g5 => hI kd x y g1 g2 g3 g4 (by omega))
      ·
        refine a_iconst X (v := nI 0) d_Tt_sumWith_28 (by decide) ?_
        refine a_istore X d_Tt_sumWith_29 (by decide) ?_
        refine ab_sub [(0, .ref 181), (1, .int (nI kd)), (2, .int (nI wn)), (3, .int (nI i)), (4, .int (nI j)), (5, .int (nI a)), (6, .int (nI e)), (7, .int (nI 0))] rfl ?_
        refine ab_hp (show _ = hc r s w c b d k (su, ct, be, (upC ha (a * 6 + e) 0 (fun _ => 0)), t.2.2.2.2.1, t.2.2.2.2.2.1, t.2.2.2.2.2.2.1, 1) ++ Z from by rw [upC_0]) ?_
        suffices LP3 : ∀ (m3 x : Nat), x ≤ k.2.2 → k.2.2 - x < m3 → ab_R E G m 8 0 0 31 [(0, .ref 181), (1, .int (nI kd)), (2, .int (nI wn)), (3, .int (nI i)), (4, .int (nI j)), (5, .int (nI a)), (6, .int (nI e)), (7, .int (nI x))] [] (hc r s w c b d k (su, ct, be, (upC ha (a * 6 + e) x (fun _ => 0)), t.2.2.2.2.1, t.2.2.2.2.2.1, t.2.2.2.2.2.2.1, 1) ++ Z) from LP3 (k.2.2 + 1) 0 (by omega) (by omega)
        intro m3
        induction m3 with
        | zero => intro x h5 h6; exfalso; omega
        | succ m3 ih3 =>
          intro x h5 h6
          refine a_iload X d_Tt_sumWith_31 rfl ?_
          refine a_aload_n X 0 d_Tt_sumWith_33 rfl rfl ?_
          refine a_get X ff_Tt_44 d_Tt_sumWith_34 hq_180 rfl ?_
          refine a_get X ff_Tt_60 d_Tt_sumWith_37 hq_169 rfl ?_
          refine a_icmp_geN X 65 (by omega) (by omega) d_Tt_sumWith_40 (by decide) (fun c40 => ?_) (fun c40 => ?_)
          ·
            have hx : x = k.2.2 := by omega
            subst hx
            clear ih3
            refine a_iload X d_Tt_sumWith_65 rfl ?_
            refine a_iload_n X 3 d_Tt_sumWith_67 rfl rfl ?_
            refine a_icmp_neN X 107 (by omega) (by omega) d_Tt_sumWith_68 (by decide) (fun c68 => ?_) (fun c68 => ?_)
            ·
              refine a_aload_n X 0 d_Tt_sumWith_107 rfl rfl ?_
              refine a_iload X d_Tt_sumWith_108 rfl ?_
              refine a_iload X d_Tt_sumWith_110 rfl ?_
              refine a_iload_n X 3 d_Tt_sumWith_112 rfl rfl ?_
              refine a_iload X d_Tt_sumWith_113 rfl ?_
              refine a_callV X (a := 180) (As := [.int (nI _), .int (nI _), .int (nI _), .int (nI _)]) hq_180 rfl fb_Tt_addAround lk_Tt_105 im_Tt_addAround se_Tt_addAround (c_aar hK.1 (by omega) (by omega) (by omega) (by omega) hK.2.1) rfl rfl (Nat.le_of_ble_eq_true rfl) (by decide) (by decide) (Nat.le_refl _) (Nat.le_refl _) d_Tt_sumWith_115 (fun v h1 hp => ?_)
              obtain ⟨rfl, rfl⟩ := hp
              refine a_incN X d_Tt_sumWith_118 rfl (by decide) ?_
              refine a_goto X 16 d_Tt_sumWith_121 (by decide) ?_
              refine ab_sub [(0, .ref 181), (1, .int (nI kd)), (2, .int (nI wn)), (3, .int (nI i)), (4, .int (nI j)), (5, .int (nI a)), (6, .int (nI (e + 1)))] rfl ?_
              exact ih2 (e + 1) (upC (upC ha (a * 6 + e) k.2.2 (fun _ => 0)) (a * 6 + e) k.2.2 (fun kd => upC ha (a * 6 + e) k.2.2 (fun _ => 0) kd (a * 6 + e) + hvF k su (upC ha (a * 6 + e) k.2.2 (fun _ => 0)) kd a e i j)) (by omega) (by omega) (by omega) (fun kd2 x y g1 g2 g3 g4 g5 => by
                have hne : ¬ (a = i ∧ e = j) := by omega
                by_cases c1 : x = a ∧ y = e
                · obtain ⟨rfl, rfl⟩ := c1
                  rw [if_neg hne, upC_in g1, upC_in g1, Nat.zero_add, upC_upC, hvF_up (by omega) (by omega) (by omega) (by omega) (by omega) (by omega) (by omega), hvF_up (by omega) (by omega) (by omega) (by omega) (by omega) (by omega) (by omega)]
                · rw [upC_ne (by omega), upC_ne (by omega), upC_upC, hvF_up (by omega) (by omega) (by omega) (by omega) (by omega) (by omega) (by omega)]
                  exact hI kd2 x y g1 g2 g3 g4 (by omega))
            ·
              refine a_iload X d_Tt_sumWith_71 rfl ?_
              refine a_iload X d_Tt_sumWith_73 rfl ?_
              refine a_icmp_neN X 107 (by omega) (by omega) d_Tt_sumWith_75 (by decide) (fun c75 => ?_) (fun c75 => ?_)
              ·
                refine a_aload_n X 0 d_Tt_sumWith_107 rfl rfl ?_
                refine a_iload X d_Tt_sumWith_108 rfl ?_
                refine a_iload X d_Tt_sumWith_110 rfl ?_
                refine a_iload_n X 3 d_Tt_sumWith_112 rfl rfl ?_
                refine a_iload X d_Tt_sumWith_113 rfl ?_
                refine a_callV X (a := 180) (As := [.int (nI _), .int (nI _), .int (nI _), .int (nI _)]) hq_180 rfl fb_Tt_addAround lk_Tt_105 im_Tt_addAround se_Tt_addAround (c_aar hK.1 (by omega) (by omega) (by omega) (by omega) hK.2.1) rfl rfl (Nat.le_of_ble_eq_true rfl) (by decide) (by decide) (Nat.le_refl _) (Nat.le_refl _) d_Tt_sumWith_115 (fun v h1 hp => ?_)
                obtain ⟨rfl, rfl⟩ := hp
                refine a_incN X d_Tt_sumWith_118 rfl (by decide) ?_
                refine a_goto X 16 d_Tt_sumWith_121 (by decide) ?_
                refine ab_sub [(0, .ref 181), (1, .int (nI kd)), (2, .int (nI wn)), (3, .int (nI i)), (4, .int (nI j)), (5, .int (nI a)), (6, .int (nI (e + 1)))] rfl ?_
                exact ih2 (e + 1) (upC (upC ha (a * 6 + e) k.2.2 (fun _ => 0)) (a * 6 + e) k.2.2 (fun kd => upC ha (a * 6 + e) k.2.2 (fun _ => 0) kd (a * 6 + e) + hvF k su (upC ha (a * 6 + e) k.2.2 (fun _ => 0)) kd a e i j)) (by omega) (by omega) (by omega) (fun kd2 x y g1 g2 g3 g4 g5 => by
                  have hne : ¬ (a = i ∧ e = j) := by omega
                  by_cases c1 : x = a ∧ y = e
                  · obtain ⟨rfl, rfl⟩ := c1
                    rw [if_neg hne, upC_in g1, upC_in g1, Nat.zero_add, upC_upC, hvF_up (by omega) (by omega) (by omega) (by omega) (by omega) (by omega) (by omega), hvF_up (by omega) (by omega) (by omega) (by omega) (by omega) (by omega) (by omega)]
                  · rw [upC_ne (by omega), upC_ne (by omega), upC_upC, hvF_up (by omega) (by omega) (by omega) (by omega) (by omega) (by omega) (by omega)]
                    exact hI kd2 x y g1 g2 g3 g4 (by omega))
              ·
                have hae : a = i ∧ e = j := by omega
                refine a_aload_n X 0 d_Tt_sumWith_78 rfl rfl ?_
                refine a_get X ff_Tt_22 d_Tt_sumWith_79 hq_180 rfl ?_
                refine a_iload_n X 2 d_Tt_sumWith_82 rfl rfl ?_
                refine a_aald X d_Tt_sumWith_83 hq_196 rfl rfl (ab_ix_nI (by omega) (by decide)) (hg_ha (by omega)) ?_
                refine a_iload_n X 3 d_Tt_sumWith_84 rfl rfl ?_
                refine a_iload X d_Tt_sumWith_85 rfl ?_
                refine a_callS X (As := [.int (nI _), .int (nI _)]) fb_Tt_spanOf lk_Tt_56 sm_Tt_spanOf (c_Tt_spanOf) rfl rfl (Nat.le_of_ble_eq_true rfl) (by decide) (by decide) (Nat.le_refl _) (Nat.le_refl _) d_Tt_sumWith_87 (fun v h1 hp => ?_)
                obtain ⟨rfl, rfl⟩ := hp
                refine a_aload_n X 0 d_Tt_sumWith_90 rfl rfl ?_
                refine a_get X ff_Tt_13 d_Tt_sumWith_91 hq_180 rfl ?_
                refine a_iload_n X 2 d_Tt_sumWith_94 rfl rfl ?_
                refine a_aald X d_Tt_sumWith_95 hq_181 rfl rfl (ab_ix_nI (by omega) (by decide)) (hg_su (by omega)) ?_
                refine a_iload_n X 3 d_Tt_sumWith_96 rfl rfl ?_
                refine a_iload X d_Tt_sumWith_97 rfl ?_
                refine a_callS X (As := [.int (nI _), .int (nI _)]) fb_Tt_spanOf lk_Tt_56 sm_Tt_spanOf (c_Tt_spanOf) rfl rfl (Nat.le_of_ble_eq_true rfl) (by decide) (by decide) (Nat.le_refl _) (Nat.le_refl _) d_Tt_sumWith_99 (fun v h1 hp => ?_)
                obtain ⟨rfl, rfl⟩ := hp
                refine a_lald X d_Tt_sumWith_102 (hr_su (by omega)) rfl (ab_ix_nI (by omega) (by decide)) ?_
                refine a_last X d_Tt_sumWith_103 (hr_ha (by omega)) rfl (ab_ix_nI (by omega) (by decide)) ?_
                refine ab_hp (hw_ha (by omega)) ?_
                refine a_goto X 118 d_Tt_sumWith_104 (by decide) ?_
                refine a_incN X d_Tt_sumWith_118 rfl (by decide) ?_
                refine a_goto X 16 d_Tt_sumWith_121 (by decide) ?_
                refine ab_sub [(0, .ref 181), (1, .int (nI kd)), (2, .int (nI wn)), (3, .int (nI i)), (4, .int (nI j)), (5, .int (nI a)), (6, .int (nI (e + 1)))] rfl ?_
                exact ih2 (e + 1) (up2 (upC ha (a * 6 + e) k.2.2 (fun _ => 0)) wn (i * 6 + j) (su wn (i * 6 + j))) (by omega) (by omega) (by omega) (fun kd2 x y g1 g2 g3 g4 g5 => by
                  obtain ⟨rfl, rfl⟩ := hae
                  by_cases c1 : x = a ∧ y = e
                  · obtain ⟨rfl, rfl⟩ := c1
                    rw [if_pos ⟨rfl, rfl⟩]
                    by_cases c2 : kd2 = wn
                    · subst c2
                      rw [if_pos rfl, up2_self]
                    · rw [if_neg c2, up2_ne (fun q => c2 q.1), upC_in g1]
                  · exact absurd g5 (by omega))
          ·
            refine a_aload_n X 0 d_Tt_sumWith_43 rfl rfl ?_
            refine a_get X ff_Tt_22 d_Tt_sumWith_44 hq_180 rfl ?_
            refine a_iload X d_Tt_sumWith_47 rfl ?_
            refine a_aald X d_Tt_sumWith_49 hq_196 rfl rfl (ab_ix_nI (by omega) (by decide)) (hg_ha (by omega)) ?_
            refine a_iload X d_Tt_sumWith_50 rfl ?_
            refine a_iload X d_Tt_sumWith_52 rfl ?_
            refine a_callS X (As := [.int (nI _), .int (nI _)]) fb_Tt_spanOf lk_Tt_56 sm_Tt_spanOf (c_Tt_spanOf) rfl rfl (Nat.le_of_ble_eq_true rfl) (by decide) (by decide) (Nat.le_refl _) (Nat.le_refl _) d_Tt_sumWith_54 (fun v h1 hp => ?_)
            obtain ⟨rfl, rfl⟩ := hp
            refine a_lconst X (v := lN 0) d_Tt_sumWith_57 (by decide) ?_
            refine a_last X d_Tt_sumWith_58 (hr_ha (by omega)) rfl (ab_ix_nI (by omega) (by decide)) ?_
            refine ab_hp (hw_ha (by omega)) ?_
            refine ab_hp (show _ = hc r s w c b d k (su, ct, be, (upC ha (a * 6 + e) (x + 1) (fun _ => 0)), t.2.2.2.2.1, t.2.2.2.2.2.1, t.2.2.2.2.2.2.1, 1) ++ Z from congrArg (fun z => hc r s w c b d k (su, ct, be, z, t.2.2.2.2.1, t.2.2.2.2.2.1, t.2.2.2.2.2.2.1, 1) ++ Z) (upC_succ ha (a * 6 + e) x (fun _ => 0))) ?_
            refine a_incN X d_Tt_sumWith_59 rfl (by decide) ?_
            refine a_goto X 31 d_Tt_sumWith_62 (by decide) ?_
            refine ab_sub [(0, .ref 181), (1, .int (nI kd)), (2, .int (nI wn)), (3, .int (nI i)), (4, .int (nI j)), (5, .int (nI a)), (6, .int (nI e)), (7, .int (nI (x + 1)))] rfl ?_
            exact ih3 (x + 1) (by omega) (by omega)
