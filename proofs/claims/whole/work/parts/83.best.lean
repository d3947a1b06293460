set_option maxHeartbeats 4000000 in
set_option maxRecDepth 20000 in
theorem c_Bw_ends {E : ab_E} {l : Launch} {r : hR} {s : hS} {w c : hW} {b : hB} {d : hD} {k : hK} {t : hT} {Z : List ab_C} {p st : Nat} (hp : p < 6) (hst : st < 4) : ab_Con E l y_Bw_endsFrom b_Bw_endsFrom 3 (some (.object "HiddenRows$WayList")) 0 0 [.ref 92, .int (nI p), .int (nI st)] (hc r s w c b d k t ++ Z) 0 0 (fun v h1 => v = some (.ref (93 + 3 * (p * 4 + st + 1) + 1)) ∧ h1 = hc r s w c b d k t ++ Z) := by
  refine ab_con (own := "HiddenRows$BestWays") (ini := false) (by decide) (fun h => by cases h) rfl (Nat.le_of_ble_eq_true rfl) ?_
  intro G m X
  show ab_R E G m 3 0 0 0 [(0, .ref 92), (1, .int (nI p)), (2, .int (nI st))] [] (hc r s w c b d k t ++ Z)
  refine a_aload_n X 0 d_Bw_endsFrom_0 rfl rfl ?_
  refine a_get X ff_Bw_11 d_Bw_endsFrom_1 hq_91 rfl ?_
  refine a_iload_n X 1 d_Bw_endsFrom_4 rfl rfl ?_
  refine a_iconst X (v := nI 4) d_Bw_endsFrom_5 (by decide) ?_
  refine a_imul X d_Bw_endsFrom_6 ?_
  refine ab_topi (pk_mul _ _) ?_
  refine a_iload_n X 2 d_Bw_endsFrom_7 rfl rfl ?_
  refine a_iadd X d_Bw_endsFrom_8 ?_
  refine ab_topi (nI_add _ _) ?_
  refine a_aald X d_Bw_endsFrom_9 hq_92 rfl rfl (ab_ix_nI (by omega) (by decide)) (hg_ends (by omega)) ?_
  exact a_aret X (Or.inl ⟨_, rfl⟩) d_Bw_endsFrom_10 (Nat.le_refl _) (Nat.le_refl _) ⟨rfl, rfl⟩
set_option maxHeartbeats 4000000 in
set_option maxRecDepth 20000 in
theorem c_Bw_offA {E : ab_E} {l : Launch} {r : hR} {s : hS} {w c : hW} {b : hB} {d : hD} {k : hK} {t : hT} {Z : List ab_C} {lt lf fa ah : Nat} {I : Nat → hL → Prop} (hlt : lt < 25) (hlf : lf < 25) (hne : lf ≠ lt) (hsz : (b.1 lf).2.2 ≤ 10) (h0 : I 0 (b.1 lt)) (hI : ∀ i L, i < (b.1 lf).2.2 → I i L → (fa * (b.1 lf).1 i) < 2 ^ 63 ∧ (ah ||| (b.1 lf).2.1 i) < 2 ^ 31 ∧ (∀ j, j < L.2.2 → L.1 j < 2 ^ 63) ∧ (∀ j, j < L.2.2 → L.2.1 j < 2 ^ 31) ∧ L.2.2 ≤ 10 ∧ (((fa * (b.1 lf).1 i) = 0 ∨ ∃ p, isPos L (fa * (b.1 lf).1 i) (ah ||| (b.1 lf).2.1 i) p ∧ 10 ≤ p) → I (b.1 lf).2.2 L) ∧ ∀ p L1, isPos L (fa * (b.1 lf).1 i) (ah ||| (b.1 lf).2.1 i) p → p < 10 → okOff L L1 (fa * (b.1 lf).1 i) (ah ||| (b.1 lf).2.1 i) p → I (i + 1) L1) : ab_Con E l y_Bw_offerAll b_Bw_offerAll 6 none 2 49 [.ref (93 + 3 * lt + 1), .long (lN fa), .int (nI ah), .ref (93 + 3 * lf + 1)] (hc r s w c b d k t ++ Z) 0 0 (fun v h1 => ∃ L : hL, I (b.1 lf).2.2 L ∧ v = none ∧ h1 = hc r s w c (va_up b.1 lt L, b.2) d k t ++ Z) := by
  refine ab_con (own := "HiddenRows$BestWays") (ini := false) (by decide) (fun h => by cases h) rfl (Nat.le_of_ble_eq_true rfl) ?_
  intro G m X
  show ab_R E G m 6 0 0 0 [(0, .ref (93 + 3 * lt + 1)), (1, .long (lN fa)), (3, .int (nI ah)), (4, .ref (93 + 3 * lf + 1))] [] (hc r s w c b d k t ++ Z)
  refine a_iconst X (v := nI 0) d_Bw_offerAll_0 (by decide) ?_
  refine a_istore X d_Bw_offerAll_1 (by decide) ?_
  refine ab_sub [(0, .ref (93 + 3 * lt + 1)), (1, .long (lN fa)), (3, .int (nI ah)), (4, .ref (93 + 3 * lf + 1)), (5, .int (nI 0))] rfl ?_
  refine ab_hp (show _ = hc r s w c (va_up b.1 lt (b.1 lt), b.2) d k t ++ Z by rw [va_eta]) ?_
  suffices LP : ∀ (mm i : Nat) (L : hL), i ≤ (b.1 lf).2.2 → (b.1 lf).2.2 - i < mm → I i L → ab_R E G m 6 0 0 3 [(0, .ref (93 + 3 * lt + 1)), (1, .long (lN fa)), (3, .int (nI ah)), (4, .ref (93 + 3 * lf + 1)), (5, .int (nI i))] [] (hc r s w c (va_up b.1 lt L, b.2) d k t ++ Z) from LP ((b.1 lf).2.2 + 1) 0 (b.1 lt) (Nat.zero_le _) (by omega) h0
  intro mm
  induction mm with
  | zero => intro i L h1 h2 h3; exfalso; omega
  | succ mm ih =>
    intro i L h1 h2 hIv
    refine a_iload X d_Bw_offerAll_3 rfl ?_
    refine a_aload X d_Bw_offerAll_5 rfl ?_
    refine a_get X ff_Bw_61 d_Bw_offerAll_7 (hr_lo hlf) rfl ?_
    refine ab_topi (congrArg nI (show (((va_up b.1 lt L, b.2)).1 lf).2.2 = (b.1 lf).2.2 by dsimp only; rw [va_up_ne _ _ hne])) ?_
    refine a_icmp_geN X 47 (by omega) (by omega) d_Bw_offerAll_10 (by decide) (fun c10 => ?_) (fun c10 => ?_)
    ·
      obtain rfl : i = (b.1 lf).2.2 := by omega
      exact a_vret X d_Bw_offerAll_47 (Nat.le_refl _) (Nat.le_refl _) ⟨L, hIv, rfl, rfl⟩
    ·
      obtain ⟨e1, e2, e3, e4, e5, e6, e7⟩ := hI i L c10 hIv
      refine a_aload_n X 0 d_Bw_offerAll_13 rfl rfl ?_
      refine a_lload_n X 1 d_Bw_offerAll_14 rfl rfl ?_
      refine a_aload X d_Bw_offerAll_15 rfl ?_
      refine a_get X ff_Bw_91 d_Bw_offerAll_17 (hr_lo hlf) rfl ?_
      refine a_iload X d_Bw_offerAll_20 rfl ?_
      refine a_lald X d_Bw_offerAll_22 (hr_lw hlf) rfl (ab_ix_nI (by omega) (by decide)) ?_
      refine ab_topl (congrArg lN (show (((va_up b.1 lt L, b.2)).1 lf).1 i = (b.1 lf).1 i by dsimp only; rw [va_up_ne _ _ hne])) ?_
      refine a_lmul X d_Bw_offerAll_23 ?_
      refine ab_topl (lN_mul _ _) ?_
      refine a_iload_n X 3 d_Bw_offerAll_24 rfl rfl ?_
      refine a_aload X d_Bw_offerAll_25 rfl ?_
      refine a_get X ff_Bw_94 d_Bw_offerAll_27 (hr_lo hlf) rfl ?_
      refine a_iload X d_Bw_offerAll_30 rfl ?_
      refine a_iald X d_Bw_offerAll_32 (hr_lt hlf) rfl (ab_ix_nI (by omega) (by decide)) ?_
      refine ab_topi (congrArg nI (show (((va_up b.1 lt L, b.2)).1 lf).2.1 i = (b.1 lf).2.1 i by dsimp only; rw [va_up_ne _ _ hne])) ?_
      refine a_ior X d_Bw_offerAll_33 ?_
      refine ab_topi (nI_or _ _) ?_
      have hLL : ((va_up b.1 lt L, b.2)).1 lt = L := va_up_self _ _ _
      refine a_callV X (a := 93 + 3 * lt) (As := [.long (lN _), .int (nI _)]) (hr_lo hlt) rfl fb_Wl_offer lk_Bw_80 im_Wl_offer se_Wl_offer (c_off (b := (va_up b.1 lt L, b.2)) hlt e1 e2 (by rw [hLL]; exact e3) (by rw [hLL]; exact e4) (by rw [hLL]; exact e5)) rfl rfl (Nat.le_of_ble_eq_true rfl) (by decide) (by decide) (Nat.le_refl _) (Nat.le_refl _) d_Bw_offerAll_34 (fun v h1 hp => ?_)
      rw [hLL] at hp
      rcases hp with ⟨rfl, rfl, hrj⟩ | ⟨rfl, p, L1, hps, hp10, hof, rfl⟩
      ·
        refine a_if_neN X 41 (by omega) d_Bw_offerAll_37 (by decide) (fun c37 => ?_) (fun c37 => ?_)
        ·
          exact absurd c37 (by omega)
        ·
          exact a_vret X d_Bw_offerAll_40 (Nat.le_refl _) (Nat.le_refl _) ⟨L, e6 hrj, rfl, rfl⟩
      ·
        refine a_if_neN X 41 (by omega) d_Bw_offerAll_37 (by decide) (fun c37 => ?_) (fun c37 => ?_)
        ·
          refine a_incN X d_Bw_offerAll_41 rfl (by decide) ?_
          refine a_goto X 3 d_Bw_offerAll_44 (by decide) ?_
          refine ab_sub [(0, .ref (93 + 3 * lt + 1)), (1, .long (lN fa)), (3, .int (nI ah)), (4, .ref (93 + 3 * lf + 1)), (5, .int (nI (i + 1)))] rfl ?_
          refine ab_hp (show _ = hc r s w c (va_up b.1 lt L1, b.2) d k t ++ Z by dsimp only; rw [bx_uu]) ?_
          exact ih (i + 1) L1 (by omega) (by omega) (e7 p L1 hps hp10 hof)
        ·
          exact absurd c37 (by omega)
