def okStep (Lf : hL) (fa ah : Nat) (I : Nat → hL → Prop) : Prop := ∀ i L, i < Lf.2.2 → I i L → (fa * Lf.1 i) < 2 ^ 63 ∧ (ah ||| Lf.2.1 i) < 2 ^ 31 ∧ (∀ j, j < L.2.2 → L.1 j < 2 ^ 63) ∧ (∀ j, j < L.2.2 → L.2.1 j < 2 ^ 31) ∧ L.2.2 ≤ 10 ∧ (((fa * Lf.1 i) = 0 ∨ ∃ p, isPos L (fa * Lf.1 i) (ah ||| Lf.2.1 i) p ∧ 10 ≤ p) → I Lf.2.2 L) ∧ ∀ p L1, isPos L (fa * Lf.1 i) (ah ||| Lf.2.1 i) p → p < 10 → okOff L L1 (fa * Lf.1 i) (ah ||| Lf.2.1 i) p → I (i + 1) L1
set_option maxHeartbeats 4000000 in
set_option maxRecDepth 20000 in
theorem c_Bw_offM {E : ab_E} {l : Launch} {r : hR} {s : hS} {w c : hW} {b : hB} {d : hD} {k : hK} {t : hT} {Z : List ab_C} {lt fa ah p st : Nat} {J : Nat → hL → Prop} (hn : r.2.2 ≤ 6) (hs : okS s) (hlt : lt < 25) (hp6 : p < 6) (hpn : p ≤ r.2.2) (hst : st < 4) (hlt2 : ∀ y, y < s.2.2 → p * 4 + y + 1 ≠ lt) (hsh : ah * 2 ^ (3 * (r.2.2 - p)) < 2 ^ 32) (h0 : J 0 (b.1 lt)) (hJ : ∀ y L, y < s.2.2 → J y L → ∃ I : Nat → hL → Prop, I 0 L ∧ (b.1 (p * 4 + y + 1)).2.2 ≤ 10 ∧ okStep (b.1 (p * 4 + y + 1)) (fa * s.2.1 st y) (ah * 2 ^ (3 * (r.2.2 - p))) I ∧ ∀ L1, I (b.1 (p * 4 + y + 1)).2.2 L1 → J (y + 1) L1) : ab_Con E l y_Bw_offerMoves b_Bw_offerMoves 9 none 3 74 [.ref 92, .ref (93 + 3 * lt + 1), .long (lN fa), .int (nI ah), .int (nI p), .int (nI st)] (hc r s w c b d k t ++ Z) 0 0 (fun v h1 => ∃ L : hL, J s.2.2 L ∧ v = none ∧ h1 = hc r s w c (va_up b.1 lt L, b.2) d k t ++ Z) := by
  have hq := hs.1
  refine ab_con (own := "HiddenRows$BestWays") (ini := false) (by decide) (fun h => by cases h) rfl (Nat.le_of_ble_eq_true rfl) ?_
  intro G m X
  show ab_R E G m 9 0 0 0 [(0, .ref 92), (1, .ref (93 + 3 * lt + 1)), (2, .long (lN fa)), (4, .int (nI ah)), (5, .int (nI p)), (6, .int (nI st))] [] (hc r s w c b d k t ++ Z)
  refine a_iload X d_Bw_offerMoves_0 rfl ?_
  refine a_iconst X (v := nI 3) d_Bw_offerMoves_2 (by decide) ?_
  refine a_aload_n X 0 d_Bw_offerMoves_3 rfl rfl ?_
  refine a_get X ff_Bw_26 d_Bw_offerMoves_4 hq_91 rfl ?_
  refine a_get X ff_Bw_43 d_Bw_offerMoves_7 hq_1 rfl ?_
  refine a_iload X d_Bw_offerMoves_10 rfl ?_
  refine a_isub X d_Bw_offerMoves_12 ?_
  refine ab_topi (pk_sub (by omega)) ?_
  refine a_imul X d_Bw_offerMoves_13 ?_
  refine ab_topi (pk_mul _ _) ?_
  refine a_ishl X d_Bw_offerMoves_14 ?_
  refine ab_topi (sh_l (t := 3 * (r.2.2 - p)) (by omega) hsh) ?_
  refine a_istore X d_Bw_offerMoves_15 (by decide) ?_
  refine a_iconst X (v := nI 0) d_Bw_offerMoves_17 (by decide) ?_
  refine a_istore X d_Bw_offerMoves_18 (by decide) ?_
  refine ab_sub [(0, .ref 92), (1, .ref (93 + 3 * lt + 1)), (2, .long (lN fa)), (5, .int (nI p)), (6, .int (nI st)), (7, .int (nI (ah * 2 ^ (3 * (r.2.2 - p))))), (8, .int (nI 0))] rfl ?_
  refine ab_hp (show _ = hc r s w c (va_up b.1 lt (b.1 lt), b.2) d k t ++ Z by rw [va_eta]) ?_
  suffices LP : ∀ (mm y : Nat) (L : hL), y ≤ s.2.2 → s.2.2 - y < mm → J y L → ab_R E G m 9 0 0 20 [(0, .ref 92), (1, .ref (93 + 3 * lt + 1)), (2, .long (lN fa)), (5, .int (nI p)), (6, .int (nI st)), (7, .int (nI (ah * 2 ^ (3 * (r.2.2 - p))))), (8, .int (nI y))] [] (hc r s w c (va_up b.1 lt L, b.2) d k t ++ Z) from LP (s.2.2 + 1) 0 (b.1 lt) (Nat.zero_le _) (by omega) h0
  intro mm
  induction mm with
  | zero => intro y L h1 h2 h3; exfalso; omega
  | succ mm ih =>
    intro y L h1 h2 hJv
    refine a_iload X d_Bw_offerMoves_20 rfl ?_
    refine a_aload_n X 0 d_Bw_offerMoves_22 rfl rfl ?_
    refine a_get X ff_Bw_30 d_Bw_offerMoves_23 hq_91 rfl ?_
    refine a_get X ff_Bw_49 d_Bw_offerMoves_26 hq_4 rfl ?_
    refine a_icmp_geN X 68 (by omega) (by omega) d_Bw_offerMoves_29 (by decide) (fun c29 => ?_) (fun c29 => ?_)
    ·
      obtain rfl : y = s.2.2 := by omega
      exact a_vret X d_Bw_offerMoves_68 (Nat.le_refl _) (Nat.le_refl _) ⟨L, hJv, rfl, rfl⟩
    ·
      obtain ⟨I, i0, i1, i2, i3⟩ := hJ y L c29 hJv
      have hne : p * 4 + y + 1 ≠ lt := hlt2 y c29
      refine a_aload_n X 1 d_Bw_offerMoves_32 rfl rfl ?_
      refine a_lload_n X 2 d_Bw_offerMoves_33 rfl rfl ?_
      refine a_aload_n X 0 d_Bw_offerMoves_34 rfl rfl ?_
      refine a_get X ff_Bw_30 d_Bw_offerMoves_35 hq_91 rfl ?_
      refine a_get X ff_Bw_88 d_Bw_offerMoves_38 hq_4 rfl ?_
      refine a_iload X d_Bw_offerMoves_41 rfl ?_
      refine a_aald X d_Bw_offerMoves_43 hq_10 rfl rfl (ab_ix_nI (by omega) (by decide)) (hg_mv (by omega)) ?_
      refine a_iload X d_Bw_offerMoves_44 rfl ?_
      refine a_iald X d_Bw_offerMoves_46 (hr_mv (by omega)) rfl (ab_ix_nI (by omega) (by decide)) ?_
      refine a_i2l X d_Bw_offerMoves_47 ?_
      refine ab_topl (nI_l (by have := hs.2.2 st y; omega)) ?_
      refine a_lmul X d_Bw_offerMoves_48 ?_
      refine ab_topl (lN_mul _ _) ?_
      refine a_iload X d_Bw_offerMoves_49 rfl ?_
      refine a_aload_n X 0 d_Bw_offerMoves_51 rfl rfl ?_
      refine a_iload X d_Bw_offerMoves_52 rfl ?_
      refine a_iload X d_Bw_offerMoves_54 rfl ?_
      refine a_callV X (a := 91) (As := [.int (nI _), .int (nI _)]) hq_91 rfl fb_Bw_endsFrom lk_Bw_68 im_Bw_endsFrom se_Bw_endsFrom (c_Bw_ends hp6 (by omega)) rfl rfl (Nat.le_of_ble_eq_true rfl) (by decide) (by decide) (Nat.le_refl _) (Nat.le_refl _) d_Bw_offerMoves_56 (fun v h1 hp => ?_)
      obtain ⟨rfl, rfl⟩ := hp
      have hLL : ((va_up b.1 lt L, b.2)).1 lt = L := va_up_self _ _ _
      have hLF : ((va_up b.1 lt L, b.2)).1 (p * 4 + y + 1) = b.1 (p * 4 + y + 1) := va_up_ne _ _ hne
      refine a_callS X (As := [.ref (93 + 3 * lt + 1), .long (lN _), .int (nI _), .ref (93 + 3 * (p * 4 + y + 1) + 1)]) fb_Bw_offerAll lk_Bw_72 sm_Bw_offerAll (c_Bw_offA (b := (va_up b.1 lt L, b.2)) (I := I) (lf := p * 4 + y + 1) hlt (by omega) hne (by rw [hLF]; exact i1) (by rw [hLL]; exact i0) (by rw [hLF]; exact i2)) rfl rfl (Nat.le_of_ble_eq_true rfl) (by decide) (by decide) (Nat.le_refl _) (Nat.le_refl _) d_Bw_offerMoves_59 (fun v h1 hp => ?_)
      rw [hLF] at hp
      obtain ⟨L1, hI1, rfl, rfl⟩ := hp
      refine a_incN X d_Bw_offerMoves_62 rfl (by decide) ?_
      refine a_goto X 20 d_Bw_offerMoves_65 (by decide) ?_
      refine ab_sub [(0, .ref 92), (1, .ref (93 + 3 * lt + 1)), (2, .long (lN fa)), (5, .int (nI p)), (6, .int (nI st)), (7, .int (nI (ah * 2 ^ (3 * (r.2.2 - p))))), (8, .int (nI (y + 1)))] rfl ?_
      refine ab_hp (show _ = hc r s w c (va_up b.1 lt L1, b.2) d k t ++ Z by dsimp only; rw [bx_uu]) ?_
      exact ih (y + 1) L1 (by omega) (by omega) (i3 L1 hI1)
