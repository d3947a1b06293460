set_option maxHeartbeats 4000000 in
set_option maxRecDepth 20000 in
theorem c_Bw_lWh {E : ab_E} {l : Launch} {r : hR} {s : hS} {w c : hW} {b : hB} {d : hD} {k : hK} {t : hT} {Z : List ab_C} {J : Nat → hL → Prop} (hn : r.2.2 ≤ 6) (hs : okS s) (h0 : J 0 ((b.1 0).1, (b.1 0).2.1, 0)) (hJ : ∀ y L, y < s.2.2 → J y L → ∃ I : Nat → hL → Prop, I 0 L ∧ (b.1 (0 * 4 + y + 1)).2.2 ≤ 10 ∧ okStep (b.1 (0 * 4 + y + 1)) (s.1 y 0) 0 I ∧ ∀ L1, I (b.1 (0 * 4 + y + 1)).2.2 L1 → J (y + 1) L1) : ab_Con E l y_Bw_listWhole b_Bw_listWhole 2 none 3 74 [.ref 92] (hc r s w c b d k t ++ Z) 0 0 (fun v h1 => ∃ L : hL, ((r.2.2 = 0 ∧ L = ((b.1 0).1, (b.1 0).2.1, 0)) ∨ (0 < r.2.2 ∧ J s.2.2 L)) ∧ v = none ∧ h1 = hc r s w c (va_up b.1 0 L, b.2) d k t ++ Z) := by
  have hq := hs.1
  refine ab_con (own := "HiddenRows$BestWays") (ini := false) (by decide) (fun h => by cases h) rfl (Nat.le_of_ble_eq_true rfl) ?_
  intro G m X
  show ab_R E G m 2 0 0 0 [(0, .ref 92)] [] (hc r s w c b d k t ++ Z)
  refine a_aload_n X 0 d_Bw_listWhole_0 rfl rfl ?_
  refine a_get X ff_Bw_18 d_Bw_listWhole_1 hq_91 rfl ?_
  refine a_iconst X (v := nI 0) d_Bw_listWhole_4 (by decide) ?_
  refine a_put X ff_Bw_61 d_Bw_listWhole_5 (hr_lo (i := 0) (by omega)) (Nat.le_of_ble_eq_true rfl) rfl rfl ?_
  refine ab_hp (hw_lo (i := 0) (v := 0) (by omega)) ?_
  refine a_aload_n X 0 d_Bw_listWhole_8 rfl rfl ?_
  refine a_get X ff_Bw_26 d_Bw_listWhole_9 hq_91 rfl ?_
  refine a_get X ff_Bw_43 d_Bw_listWhole_12 hq_1 rfl ?_
  refine a_if_leN X 63 (by omega) d_Bw_listWhole_15 (by decide) (fun c15 => ?_) (fun c15 => ?_)
  ·
    exact a_vret X d_Bw_listWhole_63 (Nat.le_refl _) (Nat.le_refl _) ⟨_, Or.inl ⟨c15, rfl⟩, rfl, rfl⟩
  ·
    refine a_iconst X (v := nI 0) d_Bw_listWhole_18 (by decide) ?_
    refine a_istore_n X 1 d_Bw_listWhole_19 rfl (by decide) ?_
    refine ab_sub [(0, .ref 92), (1, .int (nI 0))] rfl ?_
    suffices LP : ∀ (mm y : Nat) (L : hL), y ≤ s.2.2 → s.2.2 - y < mm → J y L → ab_R E G m 2 0 0 20 [(0, .ref 92), (1, .int (nI y))] [] (hc r s w c (va_up b.1 0 L, b.2) d k t ++ Z) from LP (s.2.2 + 1) 0 ((b.1 0).1, (b.1 0).2.1, 0) (Nat.zero_le _) (by omega) h0
    intro mm
    induction mm with
    | zero => intro y L h1 h2 h3; exfalso; omega
    | succ mm ih =>
      intro y L h1 h2 hJv
      refine a_iload_n X 1 d_Bw_listWhole_20 rfl rfl ?_
      refine a_aload_n X 0 d_Bw_listWhole_21 rfl rfl ?_
      refine a_get X ff_Bw_30 d_Bw_listWhole_22 hq_91 rfl ?_
      refine a_get X ff_Bw_49 d_Bw_listWhole_25 hq_4 rfl ?_
      refine a_icmp_geN X 63 (by omega) (by omega) d_Bw_listWhole_28 (by decide) (fun c28 => ?_) (fun c28 => ?_)
      ·
        obtain rfl : y = s.2.2 := by omega
        exact a_vret X d_Bw_listWhole_63 (Nat.le_refl _) (Nat.le_refl _) ⟨L, Or.inr ⟨c15, hJv⟩, rfl, rfl⟩
      ·
        obtain ⟨I, i0, i1, i2, i3⟩ := hJ y L c28 hJv
        have hne : 0 * 4 + y + 1 ≠ 0 := by omega
        refine a_aload_n X 0 d_Bw_listWhole_31 rfl rfl ?_
        refine a_get X ff_Bw_18 d_Bw_listWhole_32 hq_91 rfl ?_
        refine a_aload_n X 0 d_Bw_listWhole_35 rfl rfl ?_
        refine a_get X ff_Bw_30 d_Bw_listWhole_36 hq_91 rfl ?_
        refine a_get X ff_Bw_64 d_Bw_listWhole_39 hq_4 rfl ?_
        refine a_iload_n X 1 d_Bw_listWhole_42 rfl rfl ?_
        refine a_aald X d_Bw_listWhole_43 hq_5 rfl rfl (ab_ix_nI (by omega) (by decide)) (hg_wt (by omega)) ?_
        refine a_iconst X (v := nI 0) d_Bw_listWhole_44 (by decide) ?_
        refine a_iald X d_Bw_listWhole_45 (hr_wt (by omega)) rfl (ab_ix_nI (by omega) (by decide)) ?_
        refine a_i2l X d_Bw_listWhole_46 ?_
        refine ab_topl (nI_l (by have := hs.2.1 y 0; omega)) ?_
        refine a_iconst X (v := nI 0) d_Bw_listWhole_47 (by decide) ?_
        refine a_aload_n X 0 d_Bw_listWhole_48 rfl rfl ?_
        refine a_iconst X (v := nI 0) d_Bw_listWhole_49 (by decide) ?_
        refine a_iload_n X 1 d_Bw_listWhole_50 rfl rfl ?_
        refine a_callV X (a := 91) (As := [.int (nI _), .int (nI _)]) hq_91 rfl fb_Bw_endsFrom lk_Bw_68 im_Bw_endsFrom se_Bw_endsFrom (c_Bw_ends (by omega) (by omega)) rfl rfl (Nat.le_of_ble_eq_true rfl) (by decide) (by decide) (Nat.le_refl _) (Nat.le_refl _) d_Bw_listWhole_51 (fun v h1 hp => ?_)
        obtain ⟨rfl, rfl⟩ := hp
        have hLL : ((va_up b.1 0 L, b.2)).1 0 = L := va_up_self b.1 0 L
        have hLF : ((va_up b.1 0 L, b.2)).1 (0 * 4 + y + 1) = b.1 (0 * 4 + y + 1) := va_up_ne b.1 L hne
        refine a_callS X (As := [.ref 94, .long (lN _), .int (nI _), .ref (93 + 3 * (0 * 4 + y + 1) + 1)]) fb_Bw_offerAll lk_Bw_72 sm_Bw_offerAll (c_Bw_offA (b := (va_up b.1 0 L, b.2)) (I := I) (lt := 0) (lf := 0 * 4 + y + 1) (by omega) (by omega) hne (by rw [hLF]; exact i1) (by rw [hLL]; exact i0) (by rw [hLF]; exact i2)) rfl rfl (Nat.le_of_ble_eq_true rfl) (by decide) (by decide) (Nat.le_refl _) (Nat.le_refl _) d_Bw_listWhole_54 (fun v h1 hp => ?_)
        rw [hLF] at hp
        obtain ⟨L1, hI1, rfl, rfl⟩ := hp
        refine a_incN X d_Bw_listWhole_57 rfl (by decide) ?_
        refine a_goto X 20 d_Bw_listWhole_60 (by decide) ?_
        refine ab_sub [(0, .ref 92), (1, .int (nI (y + 1)))] rfl ?_
        refine ab_hp (show _ = hc r s w c (va_up b.1 0 L1, b.2) d k t ++ Z by dsimp only; rw [bx_uu]) ?_
        exact ih (y + 1) L1 (by omega) (by omega) (i3 L1 hI1)
