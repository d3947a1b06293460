set_option maxHeartbeats 4000000 in
set_option maxRecDepth 20000 in
theorem c_isb {E : ab_E} {l : Launch} {r : hR} {s : hS} {w c : hW} {b : hB} {d : hD} {k : hK} {t : hT} {Z : List ab_C} {li x y p : Nat} (hli : li < 25) (hx : x < 2 ^ 63) (hy : y < 2 ^ 31) (hLw : (b.1 li).1 p < 2 ^ 63) (hLt : (b.1 li).2.1 p < 2 ^ 31) (hp : p < 10) : ab_Con E l y_Wl_isBetter b_Wl_isBetter 5 (some .boolean) 0 0 [.ref (93 + 3 * li + 1), .long (lN x), .int (nI y), .int (nI p)] (hc r s w c b d k t ++ Z) 0 0 (fun v h1 => v = some (.int (nI (if bet x y ((b.1 li).1 p) ((b.1 li).2.1 p) then 1 else 0))) ∧ h1 = hc r s w c b d k t ++ Z) := by
  refine ab_con (own := "HiddenRows$WayList") (ini := false) (by decide) (fun h => by cases h) rfl (Nat.le_of_ble_eq_true rfl) ?_
  intro G m X
  show ab_R E G m 5 0 0 0 [(0, .ref (93 + 3 * li + 1)), (1, .long (lN x)), (3, .int (nI y)), (4, .int (nI p))] [] (hc r s w c b d k t ++ Z)
  refine a_lload_n X 1 d_Wl_isBetter_0 rfl rfl ?_
  refine a_aload_n X 0 d_Wl_isBetter_1 rfl rfl ?_
  refine a_get X ff_Wl_9 d_Wl_isBetter_2 (hr_lo (by omega)) rfl ?_
  refine a_iload X d_Wl_isBetter_5 rfl ?_
  refine a_lald X d_Wl_isBetter_7 (hr_lw (by omega)) rfl (ab_ix_nI (by omega) (by decide)) ?_
  refine a_lc_gt X 35 hx hLw d_Wl_isBetter_8 d_Wl_isBetter_9 (by decide) (fun c8 => ?_) (fun c8 => ?_)
  ·
    refine a_iconst X (v := nI 1) d_Wl_isBetter_35 (by decide) ?_
    refine a_goto X 40 d_Wl_isBetter_36 (by decide) ?_
    exact a_zret X rfl d_Wl_isBetter_40 (Nat.le_refl _) (Nat.le_refl _) ⟨by first | rw [if_pos (by omega)] | rw [if_neg (by omega)], rfl⟩
  ·
    refine a_lload_n X 1 d_Wl_isBetter_12 rfl rfl ?_
    refine a_aload_n X 0 d_Wl_isBetter_13 rfl rfl ?_
    refine a_get X ff_Wl_9 d_Wl_isBetter_14 (hr_lo (by omega)) rfl ?_
    refine a_iload X d_Wl_isBetter_17 rfl ?_
    refine a_lald X d_Wl_isBetter_19 (hr_lw (by omega)) rfl (ab_ix_nI (by omega) (by decide)) ?_
    refine a_lc_ne X 39 hx hLw d_Wl_isBetter_20 d_Wl_isBetter_21 (by decide) (fun c20 => ?_) (fun c20 => ?_)
    ·
      refine a_iconst X (v := nI 0) d_Wl_isBetter_39 (by decide) ?_
      exact a_zret X rfl d_Wl_isBetter_40 (Nat.le_refl _) (Nat.le_refl _) ⟨by first | rw [if_pos (by omega)] | rw [if_neg (by omega)], rfl⟩
    ·
      refine a_iload_n X 3 d_Wl_isBetter_24 rfl rfl ?_
      refine a_aload_n X 0 d_Wl_isBetter_25 rfl rfl ?_
      refine a_get X ff_Wl_15 d_Wl_isBetter_26 (hr_lo (by omega)) rfl ?_
      refine a_iload X d_Wl_isBetter_29 rfl ?_
      refine a_iald X d_Wl_isBetter_31 (hr_lt (by omega)) rfl (ab_ix_nI (by omega) (by decide)) ?_
      refine a_icmp_geN X 39 (by omega) hLt d_Wl_isBetter_32 (by decide) (fun c32 => ?_) (fun c32 => ?_)
      ·
        refine a_iconst X (v := nI 0) d_Wl_isBetter_39 (by decide) ?_
        exact a_zret X rfl d_Wl_isBetter_40 (Nat.le_refl _) (Nat.le_refl _) ⟨by first | rw [if_pos (by omega)] | rw [if_neg (by omega)], rfl⟩
      ·
        refine a_iconst X (v := nI 1) d_Wl_isBetter_35 (by decide) ?_
        refine a_goto X 40 d_Wl_isBetter_36 (by decide) ?_
        exact a_zret X rfl d_Wl_isBetter_40 (Nat.le_refl _) (Nat.le_refl _) ⟨by first | rw [if_pos (by omega)] | rw [if_neg (by omega)], rfl⟩
set_option maxHeartbeats 4000000 in
set_option maxRecDepth 20000 in
theorem c_off {E : ab_E} {l : Launch} {r : hR} {s : hS} {w c : hW} {b : hB} {d : hD} {k : hK} {t : hT} {Z : List ab_C} {li x y : Nat} (hli : li < 25) (hx : x < 2 ^ 63) (hy : y < 2 ^ 31) (hLw : ∀ i, i < (b.1 li).2.2 → (b.1 li).1 i < 2 ^ 63) (hLt : ∀ i, i < (b.1 li).2.2 → (b.1 li).2.1 i < 2 ^ 31) (hsz : (b.1 li).2.2 ≤ 10) : ab_Con E l y_Wl_offer b_Wl_offer 6 (some .boolean) 1 24 [.ref (93 + 3 * li + 1), .long (lN x), .int (nI y)] (hc r s w c b d k t ++ Z) 0 0 (fun v h1 => (v = some (.int (nI 0)) ∧ h1 = hc r s w c b d k t ++ Z ∧ (x = 0 ∨ ∃ p, isPos (b.1 li) x y p ∧ 10 ≤ p)) ∨ (v = some (.int (nI 1)) ∧ ∃ (p : Nat) (L1 : hL), isPos (b.1 li) x y p ∧ p < 10 ∧ okOff (b.1 li) L1 x y p ∧ h1 = hc r s w c (va_up b.1 li L1, b.2) d k t ++ Z)) := by
  refine ab_con (own := "HiddenRows$WayList") (ini := false) (by decide) (fun h => by cases h) rfl (Nat.le_of_ble_eq_true rfl) ?_
  intro G m X
  show ab_R E G m 6 0 0 0 [(0, .ref (93 + 3 * li + 1)), (1, .long (lN x)), (3, .int (nI y))] [] (hc r s w c b d k t ++ Z)
  refine a_lload_n X 1 d_Wl_offer_0 rfl rfl ?_
  refine a_lconst X (v := lN 0) d_Wl_offer_1 (by decide) ?_
  refine a_lc_gt X 8 hx (by omega) d_Wl_offer_2 d_Wl_offer_3 (by decide) (fun c2 => ?_) (fun c2 => ?_)
  ·
    refine a_aload_n X 0 d_Wl_offer_8 rfl rfl ?_
    refine a_get X ff_Wl_19 d_Wl_offer_9 (hr_lo (by omega)) rfl ?_
    refine a_istore X d_Wl_offer_12 (by decide) ?_
    refine ab_sub [(0, .ref (93 + 3 * li + 1)), (1, .long (lN x)), (3, .int (nI y)), (4, .int (nI (b.1 li).2.2))] rfl ?_
    suffices LP : ∀ (a : Nat), a ≤ (b.1 li).2.2 → (∀ i, a ≤ i → i < (b.1 li).2.2 → bet x y ((b.1 li).1 i) ((b.1 li).2.1 i)) → ab_R E G m 6 0 0 14 [(0, .ref (93 + 3 * li + 1)), (1, .long (lN x)), (3, .int (nI y)), (4, .int (nI a))] [] (hc r s w c b d k t ++ Z) from LP (b.1 li).2.2 (Nat.le_refl _) (fun i h1 h2 => by omega)
    intro a
    induction a with
    | zero =>
      intro h1 hA
      refine a_iload X d_Wl_offer_14 rfl ?_
      refine a_if_leN X 38 (by omega) d_Wl_offer_16 (by decide) (fun c16 => ?_) (fun c16 => ?_)
      ·
        obtain ⟨p, hp0⟩ : ∃ p : Nat, p = 0 := ⟨_, rfl⟩
        have hpos : isPos (b.1 li) x y p := by subst hp0; exact ⟨Nat.zero_le _, hA, Or.inl rfl, c2⟩
        refine ab_sub [(0, .ref (93 + 3 * li + 1)), (1, .long (lN x)), (3, .int (nI y)), (4, .int (nI p))] (by subst hp0; rfl) ?_
        have hpl := hpos.1
        clear hA h1 hp0
        refine a_iload X d_Wl_offer_38 rfl ?_
        refine a_bipush X (v := nI 10) d_Wl_offer_40 (by decide) ?_
        refine a_icmp_ltN X 47 (by omega) (by omega) d_Wl_offer_42 (by decide) (fun c42 => ?_) (fun c42 => ?_)
        ·
          refine a_aload_n X 0 d_Wl_offer_47 rfl rfl ?_
          refine a_aload_n X 0 d_Wl_offer_48 rfl rfl ?_
          refine a_get X ff_Wl_19 d_Wl_offer_49 (hr_lo (by omega)) rfl ?_
          refine a_iconst X (v := nI 1) d_Wl_offer_52 (by decide) ?_
          refine a_iadd X d_Wl_offer_53 ?_
          refine ab_topi (nI_add _ _) ?_
          refine a_bipush X (v := nI 10) d_Wl_offer_54 (by decide) ?_
          refine a_mmin X lk_Wl_27 sm_Jm_min in_Jm co_Jm_min d_Wl_offer_56 (by decide) (Nat.le_of_ble_eq_true rfl) (Nat.le_refl _) (Nat.le_refl _) ?_
          refine ab_topi (iminN (by omega) (by omega)) ?_
          refine a_put X ff_Wl_19 d_Wl_offer_59 (hr_lo hli) (Nat.le_of_ble_eq_true rfl) rfl rfl ?_
          refine ab_hp (hw_lo hli) ?_
          refine a_aload_n X 0 d_Wl_offer_62 rfl rfl ?_
          refine a_get X ff_Wl_19 d_Wl_offer_63 (hr_lo hli) rfl ?_
          refine ab_topi (congrArg nI (show ((va_up b.1 li ((b.1 li).1, (b.1 li).2.1, (min ((b.1 li).2.2 + 1) 10)), b.2).1 li).2.2 = (min ((b.1 li).2.2 + 1) 10) from by dsimp only; rw [va_up_self])) ?_
          refine a_iconst X (v := nI 1) d_Wl_offer_66 (by decide) ?_
          refine a_isub X d_Wl_offer_67 ?_
          refine ab_topi (pk_sub (by omega)) ?_
          refine a_istore X d_Wl_offer_68 (by decide) ?_
          refine ab_sub [(0, .ref (93 + 3 * li + 1)), (1, .long (lN x)), (3, .int (nI y)), (4, .int (nI p)), (5, .int (nI ((min ((b.1 li).2.2 + 1) 10) - 1)))] rfl ?_
          suffices LP2 : ∀ (i : Nat) (wt tl : Nat → Nat), p ≤ i → i < (min ((b.1 li).2.2 + 1) 10) → (∀ j, wt j = if i < j ∧ j < (min ((b.1 li).2.2 + 1) 10) then (b.1 li).1 (j - 1) else (b.1 li).1 j) → (∀ j, tl j = if i < j ∧ j < (min ((b.1 li).2.2 + 1) 10) then (b.1 li).2.1 (j - 1) else (b.1 li).2.1 j) → ab_R E G m 6 0 0 70 [(0, .ref (93 + 3 * li + 1)), (1, .long (lN x)), (3, .int (nI y)), (4, .int (nI p)), (5, .int (nI i))] [] (hc r s w c (va_up b.1 li (wt, tl, (min ((b.1 li).2.2 + 1) 10)), b.2) d k t ++ Z) from LP2 ((min ((b.1 li).2.2 + 1) 10) - 1) (b.1 li).1 (b.1 li).2.1 (by have := hpos.1; omega) (by omega) (fun j => by rw [if_neg (by omega)]) (fun j => by rw [if_neg (by omega)])
          intro i
          induction i with
          | zero =>
            intro wt tl g1 g2 gw gt
            refine a_iload X d_Wl_offer_70 rfl ?_
            refine a_iload X d_Wl_offer_72 rfl ?_
            refine a_icmp_leN X 115 (by omega) (by omega) d_Wl_offer_74 (by decide) (fun c74 => ?_) (fun c74 => ?_)
            ·
              refine a_aload_n X 0 d_Wl_offer_115 rfl rfl ?_
              refine a_get X ff_Wl_9 d_Wl_offer_116 (hr_lo hli) rfl ?_
              refine a_iload X d_Wl_offer_119 rfl ?_
              refine a_lload_n X 1 d_Wl_offer_121 rfl rfl ?_
              refine a_last X d_Wl_offer_122 (hr_lw hli) rfl (ab_ix_nI (by omega) (by decide)) ?_
              refine ab_hp (hw_lw hli) ?_
              refine ab_hp (show _ = hc r s w c (va_up b.1 li ((va_up wt p x), tl, (min ((b.1 li).2.2 + 1) 10)), b.2) d k t ++ Z from by simp only [bx_uu, va_up_self]) ?_
              refine a_aload_n X 0 d_Wl_offer_123 rfl rfl ?_
              refine a_get X ff_Wl_15 d_Wl_offer_124 (hr_lo hli) rfl ?_
              refine a_iload X d_Wl_offer_127 rfl ?_
              refine a_iload_n X 3 d_Wl_offer_129 rfl rfl ?_
              refine a_iast X d_Wl_offer_130 (hr_lt hli) rfl (ab_ix_nI (by omega) (by decide)) ?_
              refine ab_hp (hw_lt hli) ?_
              refine ab_hp (show _ = hc r s w c (va_up b.1 li ((va_up wt p x), (va_up tl p y), (min ((b.1 li).2.2 + 1) 10)), b.2) d k t ++ Z from by simp only [bx_uu, va_up_self]) ?_
              refine a_iconst X (v := nI 1) d_Wl_offer_131 (by decide) ?_
              have hip : 0 = p := by omega
              exact a_zret X rfl d_Wl_offer_132 (Nat.le_refl _) (Nat.le_refl _) (Or.inr ⟨rfl, p, (va_up wt p x, va_up tl p y, (min ((b.1 li).2.2 + 1) 10)), hpos, by omega, ⟨rfl, fun j hj => ⟨by
                dsimp only
                have hj : j < (min ((b.1 li).2.2 + 1) 10) := hj
                by_cases e : j = p
                · subst e
                  rw [va_up_self, if_neg (by omega), if_pos rfl]
                · rw [va_up_ne _ _ e, gw j]
                  by_cases e2 : j < p
                  · rw [if_pos e2, if_neg (by omega)]
                  · rw [if_neg e2, if_neg e, if_pos (by omega)], by
                dsimp only
                have hj : j < (min ((b.1 li).2.2 + 1) 10) := hj
                by_cases e : j = p
                · subst e
                  rw [va_up_self, if_neg (by omega), if_pos rfl]
                · rw [va_up_ne _ _ e, gt j]
                  by_cases e2 : j < p
                  · rw [if_pos e2, if_neg (by omega)]
                  · rw [if_neg e2, if_neg e, if_pos (by omega)]⟩⟩, rfl⟩)
            ·
              exfalso
              omega
          | succ i ih2 =>
            intro wt tl g1 g2 gw gt
            refine a_iload X d_Wl_offer_70 rfl ?_
            refine a_iload X d_Wl_offer_72 rfl ?_
            refine a_icmp_leN X 115 (by omega) (by omega) d_Wl_offer_74 (by decide) (fun c74 => ?_) (fun c74 => ?_)
            ·
              refine a_aload_n X 0 d_Wl_offer_115 rfl rfl ?_
              refine a_get X ff_Wl_9 d_Wl_offer_116 (hr_lo hli) rfl ?_
              refine a_iload X d_Wl_offer_119 rfl ?_
              refine a_lload_n X 1 d_Wl_offer_121 rfl rfl ?_
              refine a_last X d_Wl_offer_122 (hr_lw hli) rfl (ab_ix_nI (by omega) (by decide)) ?_
              refine ab_hp (hw_lw hli) ?_
              refine ab_hp (show _ = hc r s w c (va_up b.1 li ((va_up wt p x), tl, (min ((b.1 li).2.2 + 1) 10)), b.2) d k t ++ Z from by simp only [bx_uu, va_up_self]) ?_
              refine a_aload_n X 0 d_Wl_offer_123 rfl rfl ?_
              refine a_get X ff_Wl_15 d_Wl_offer_124 (hr_lo hli) rfl ?_
              refine a_iload X d_Wl_offer_127 rfl ?_
              refine a_iload_n X 3 d_Wl_offer_129 rfl rfl ?_
              refine a_iast X d_Wl_offer_130 (hr_lt hli) rfl (ab_ix_nI (by omega) (by decide)) ?_
              refine ab_hp (hw_lt hli) ?_
              refine ab_hp (show _ = hc r s w c (va_up b.1 li ((va_up wt p x), (va_up tl p y), (min ((b.1 li).2.2 + 1) 10)), b.2) d k t ++ Z from by simp only [bx_uu, va_up_self]) ?_
              refine a_iconst X (v := nI 1) d_Wl_offer_131 (by decide) ?_
              have hip : (i + 1) = p := by omega
              exact a_zret X rfl d_Wl_offer_132 (Nat.le_refl _) (Nat.le_refl _) (Or.inr ⟨rfl, p, (va_up wt p x, va_up tl p y, (min ((b.1 li).2.2 + 1) 10)), hpos, by omega, ⟨rfl, fun j hj => ⟨by
                dsimp only
                have hj : j < (min ((b.1 li).2.2 + 1) 10) := hj
                by_cases e : j = p
                · subst e
                  rw [va_up_self, if_neg (by omega), if_pos rfl]
                · rw [va_up_ne _ _ e, gw j]
                  by_cases e2 : j < p
                  · rw [if_pos e2, if_neg (by omega)]
                  · rw [if_neg e2, if_neg e, if_pos (by omega)], by
                dsimp only
                have hj : j < (min ((b.1 li).2.2 + 1) 10) := hj
                by_cases e : j = p
                · subst e
                  rw [va_up_self, if_neg (by omega), if_pos rfl]
                · rw [va_up_ne _ _ e, gt j]
                  by_cases e2 : j < p
                  · rw [if_pos e2, if_neg (by omega)]
                  · rw [if_neg e2, if_neg e, if_pos (by omega)]⟩⟩, rfl⟩)
            ·
              refine a_aload_n X 0 d_Wl_offer_77 rfl rfl ?_
              refine a_get X ff_Wl_9 d_Wl_offer_78 (hr_lo hli) rfl ?_
              refine a_iload X d_Wl_offer_81 rfl ?_
              refine a_aload_n X 0 d_Wl_offer_83 rfl rfl ?_
              refine a_get X ff_Wl_9 d_Wl_offer_84 (hr_lo hli) rfl ?_
              refine a_iload X d_Wl_offer_87 rfl ?_
              refine a_iconst X (v := nI 1) d_Wl_offer_89 (by decide) ?_
              refine a_isub X d_Wl_offer_90 ?_
              refine ab_topi (pk_sub (by omega)) ?_
              refine ab_topi (congrArg nI (show i + 1 - 1 = i by omega)) ?_
              refine a_lald X d_Wl_offer_91 (hr_lw hli) rfl (ab_ix_nI (by omega) (by decide)) ?_
              refine ab_topl (congrArg lN (show ((va_up b.1 li (wt, tl, (min ((b.1 li).2.2 + 1) 10)), b.2).1 li).1 i = wt i from by dsimp only; rw [va_up_self])) ?_
              refine a_last X d_Wl_offer_92 (hr_lw hli) rfl (ab_ix_nI (by omega) (by decide)) ?_
              refine ab_hp (hw_lw hli) ?_
              refine ab_hp (show _ = hc r s w c (va_up b.1 li ((va_up wt (i + 1) (wt i)), tl, (min ((b.1 li).2.2 + 1) 10)), b.2) d k t ++ Z from by simp only [bx_uu, va_up_self]) ?_
              refine a_aload_n X 0 d_Wl_offer_93 rfl rfl ?_
              refine a_get X ff_Wl_15 d_Wl_offer_94 (hr_lo hli) rfl ?_
              refine a_iload X d_Wl_offer_97 rfl ?_
              refine a_aload_n X 0 d_Wl_offer_99 rfl rfl ?_
              refine a_get X ff_Wl_15 d_Wl_offer_100 (hr_lo hli) rfl ?_
              refine a_iload X d_Wl_offer_103 rfl ?_
              refine a_iconst X (v := nI 1) d_Wl_offer_105 (by decide) ?_
              refine a_isub X d_Wl_offer_106 ?_
              refine ab_topi (pk_sub (by omega)) ?_
              refine ab_topi (congrArg nI (show i + 1 - 1 = i by omega)) ?_
              refine a_iald X d_Wl_offer_107 (hr_lt hli) rfl (ab_ix_nI (by omega) (by decide)) ?_
              refine ab_topi (congrArg nI (show ((va_up b.1 li (va_up wt (i + 1) (wt i), tl, (min ((b.1 li).2.2 + 1) 10)), b.2).1 li).2.1 i = tl i from by dsimp only; rw [va_up_self])) ?_
              refine a_iast X d_Wl_offer_108 (hr_lt hli) rfl (ab_ix_nI (by omega) (by decide)) ?_
              refine ab_hp (hw_lt hli) ?_
              refine ab_hp (show _ = hc r s w c (va_up b.1 li ((va_up wt (i + 1) (wt i)), (va_up tl (i + 1) (tl i)), (min ((b.1 li).2.2 + 1) 10)), b.2) d k t ++ Z from by simp only [bx_uu, va_up_self]) ?_
              refine a_decN X d_Wl_offer_109 rfl (by decide) ?_
              refine a_goto X 70 d_Wl_offer_112 (by decide) ?_
              refine ab_sub [(0, .ref (93 + 3 * li + 1)), (1, .long (lN x)), (3, .int (nI y)), (4, .int (nI p)), (5, .int (nI i))] rfl ?_
              exact ih2 _ _ (by omega) (by omega) (fun j => by
                by_cases e : j = i + 1
                · subst e
                  rw [va_up_self, gw i, if_neg (by omega), if_pos (by omega)]
                  rfl
                · rw [va_up_ne _ _ e, gw j]
                  by_cases e2 : i + 1 < j ∧ j < (min ((b.1 li).2.2 + 1) 10)
                  · rw [if_pos e2, if_pos (by omega)]
                  · rw [if_neg e2, if_neg (by omega)]) (fun j => by
                by_cases e : j = i + 1
                · subst e
                  rw [va_up_self, gt i, if_neg (by omega), if_pos (by omega)]
                  rfl
                · rw [va_up_ne _ _ e, gt j]
                  by_cases e2 : i + 1 < j ∧ j < (min ((b.1 li).2.2 + 1) 10)
                  · rw [if_pos e2, if_pos (by omega)]
                  · rw [if_neg e2, if_neg (by omega)])
        ·
          refine a_iconst X (v := nI 0) d_Wl_offer_45 (by decide) ?_
          exact a_zret X rfl d_Wl_offer_46 (Nat.le_refl _) (Nat.le_refl _) (Or.inl ⟨rfl, rfl, Or.inr ⟨p, hpos, by omega⟩⟩)
      ·
        exfalso
        omega
    | succ a ih =>
      intro h1 hA
      refine a_iload X d_Wl_offer_14 rfl ?_
      refine a_if_leN X 38 (by omega) d_Wl_offer_16 (by decide) (fun c16 => ?_) (fun c16 => ?_)
      ·
        exfalso
        omega
      ·
        refine a_aload_n X 0 d_Wl_offer_19 rfl rfl ?_
        refine a_lload_n X 1 d_Wl_offer_20 rfl rfl ?_
        refine a_iload_n X 3 d_Wl_offer_21 rfl rfl ?_
        refine a_iload X d_Wl_offer_22 rfl ?_
        refine a_iconst X (v := nI 1) d_Wl_offer_24 (by decide) ?_
        refine a_isub X d_Wl_offer_25 ?_
        refine ab_topi (pk_sub (by omega)) ?_
        refine ab_topi (congrArg nI (show a + 1 - 1 = a by omega)) ?_
        refine a_callV X (a := 93 + 3 * li) (As := [.long (lN _), .int (nI _), .int (nI _)]) (hr_lo hli) rfl fb_Wl_isBetter lk_Wl_23 im_Wl_isBetter se_Wl_isBetter (c_isb hli hx hy (hLw a (by omega)) (hLt a (by omega)) (by omega)) rfl rfl (Nat.le_of_ble_eq_true rfl) (by decide) (by decide) (Nat.le_refl _) (Nat.le_refl _) d_Wl_offer_26 (fun v h1 hp => ?_)
        obtain ⟨rfl, rfl⟩ := hp
        by_cases hbt : bet x y ((b.1 li).1 a) ((b.1 li).2.1 a)
        · rw [if_pos hbt]
          refine a_if_eqN X 38 (by omega) d_Wl_offer_29 (by decide) (fun c29 => ?_) (fun c29 => ?_)
          ·
            exfalso
            omega
          ·
            refine a_decN X d_Wl_offer_32 rfl (by decide) ?_
            refine a_goto X 14 d_Wl_offer_35 (by decide) ?_
            refine ab_sub [(0, .ref (93 + 3 * li + 1)), (1, .long (lN x)), (3, .int (nI y)), (4, .int (nI a))] rfl ?_
            exact ih (by omega) (fun i g1 g2 => by
              by_cases e : i = a
              · subst e
                exact hbt
              · exact hA i (by omega) g2)
        · rw [if_neg hbt]
          refine a_if_eqN X 38 (by omega) d_Wl_offer_29 (by decide) (fun c29 => ?_) (fun c29 => ?_)
          ·
            obtain ⟨p, hp0⟩ : ∃ p : Nat, p = a + 1 := ⟨_, rfl⟩
            have hpos : isPos (b.1 li) x y p := by subst hp0; exact ⟨h1, hA, Or.inr hbt, c2⟩
            refine ab_sub [(0, .ref (93 + 3 * li + 1)), (1, .long (lN x)), (3, .int (nI y)), (4, .int (nI p))] (by subst hp0; rfl) ?_
            have hpl := hpos.1
            clear ih hA h1 hbt hp0
            refine a_iload X d_Wl_offer_38 rfl ?_
            refine a_bipush X (v := nI 10) d_Wl_offer_40 (by decide) ?_
            refine a_icmp_ltN X 47 (by omega) (by omega) d_Wl_offer_42 (by decide) (fun c42 => ?_) (fun c42 => ?_)
            ·
              refine a_aload_n X 0 d_Wl_offer_47 rfl rfl ?_
              refine a_aload_n X 0 d_Wl_offer_48 rfl rfl ?_
              refine a_get X ff_Wl_19 d_Wl_offer_49 (hr_lo (by omega)) rfl ?_
              refine a_iconst X (v := nI 1) d_Wl_offer_52 (by decide) ?_
              refine a_iadd X d_Wl_offer_53 ?_
              refine ab_topi (nI_add _ _) ?_
              refine a_bipush X (v := nI 10) d_Wl_offer_54 (by decide) ?_
              refine a_mmin X lk_Wl_27 sm_Jm_min in_Jm co_Jm_min d_Wl_offer_56 (by decide) (Nat.le_of_ble_eq_true rfl) (Nat.le_refl _) (Nat.le_refl _) ?_
              refine ab_topi (iminN (by omega) (by omega)) ?_
              refine a_put X ff_Wl_19 d_Wl_offer_59 (hr_lo hli) (Nat.le_of_ble_eq_true rfl) rfl rfl ?_
              refine ab_hp (hw_lo hli) ?_
              refine a_aload_n X 0 d_Wl_offer_62 rfl rfl ?_
              refine a_get X ff_Wl_19 d_Wl_offer_63 (hr_lo hli) rfl ?_
              refine ab_topi (congrArg nI (show ((va_up b.1 li ((b.1 li).1, (b.1 li).2.1, (min ((b.1 li).2.2 + 1) 10)), b.2).1 li).2.2 = (min ((b.1 li).2.2 + 1) 10) from by dsimp only; rw [va_up_self])) ?_
              refine a_iconst X (v := nI 1) d_Wl_offer_66 (by decide) ?_
              refine a_isub X d_Wl_offer_67 ?_
              refine ab_topi (pk_sub (by omega)) ?_
              refine a_istore X d_Wl_offer_68 (by decide) ?_
              refine ab_sub [(0, .ref (93 + 3 * li + 1)), (1, .long (lN x)), (3, .int (nI y)), (4, .int (nI p)), (5, .int (nI ((min ((b.1 li).2.2 + 1) 10) - 1)))] rfl ?_
              suffices LP2 : ∀ (i : Nat) (wt tl : Nat → Nat), p ≤ i → i < (min ((b.1 li).2.2 + 1) 10) → (∀ j, wt j = if i < j ∧ j < (min ((b.1 li).2.2 + 1) 10) then (b.1 li).1 (j - 1) else (b.1 li).1 j) → (∀ j, tl j = if i < j ∧ j < (min ((b.1 li).2.2 + 1) 10) then (b.1 li).2.1 (j - 1) else (b.1 li).2.1 j) → ab_R E G m 6 0 0 70 [(0, .ref (93 + 3 * li + 1)), (1, .long (lN x)), (3, .int (nI y)), (4, .int (nI p)), (5, .int (nI i))] [] (hc r s w c (va_up b.1 li (wt, tl, (min ((b.1 li).2.2 + 1) 10)), b.2) d k t ++ Z) from LP2 ((min ((b.1 li).2.2 + 1) 10) - 1) (b.1 li).1 (b.1 li).2.1 (by have := hpos.1; omega) (by omega) (fun j => by rw [if_neg (by omega)]) (fun j => by rw [if_neg (by omega)])
              intro i
              induction i with
              | zero =>
                intro wt tl g1 g2 gw gt
                refine a_iload X d_Wl_offer_70 rfl ?_
                refine a_iload X d_Wl_offer_72 rfl ?_
                refine a_icmp_leN X 115 (by omega) (by omega) d_Wl_offer_74 (by decide) (fun c74 => ?_) (fun c74 => ?_)
                ·
                  refine a_aload_n X 0 d_Wl_offer_115 rfl rfl ?_
                  refine a_get X ff_Wl_9 d_Wl_offer_116 (hr_lo hli) rfl ?_
                  refine a_iload X d_Wl_offer_119 rfl ?_
                  refine a_lload_n X 1 d_Wl_offer_121 rfl rfl ?_
                  refine a_last X d_Wl_offer_122 (hr_lw hli) rfl (ab_ix_nI (by omega) (by decide)) ?_
                  refine ab_hp (hw_lw hli) ?_
                  refine ab_hp (show _ = hc r s w c (va_up b.1 li ((va_up wt p x), tl, (min ((b.1 li).2.2 + 1) 10)), b.2) d k t ++ Z from by simp only [bx_uu, va_up_self]) ?_
                  refine a_aload_n X 0 d_Wl_offer_123 rfl rfl ?_
                  refine a_get X ff_Wl_15 d_Wl_offer_124 (hr_lo hli) rfl ?_
                  refine a_iload X d_Wl_offer_127 rfl ?_
                  refine a_iload_n X 3 d_Wl_offer_129 rfl rfl ?_
                  refine a_iast X d_Wl_offer_130 (hr_lt hli) rfl (ab_ix_nI (by omega) (by decide)) ?_
                  refine ab_hp (hw_lt hli) ?_
                  refine ab_hp (show _ = hc r s w c (va_up b.1 li ((va_up wt p x), (va_up tl p y), (min ((b.1 li).2.2 + 1) 10)), b.2) d k t ++ Z from by simp only [bx_uu, va_up_self]) ?_
                  refine a_iconst X (v := nI 1) d_Wl_offer_131 (by decide) ?_
                  have hip : 0 = p := by omega
                  exact a_zret X rfl d_Wl_offer_132 (Nat.le_refl _) (Nat.le_refl _) (Or.inr ⟨rfl, p, (va_up wt p x, va_up tl p y, (min ((b.1 li).2.2 + 1) 10)), hpos, by omega, ⟨rfl, fun j hj => ⟨by
                    dsimp only
                    have hj : j < (min ((b.1 li).2.2 + 1) 10) := hj
                    by_cases e : j = p
                    · subst e
                      rw [va_up_self, if_neg (by omega), if_pos rfl]
                    · rw [va_up_ne _ _ e, gw j]
                      by_cases e2 : j < p
                      · rw [if_pos e2, if_neg (by omega)]
                      · rw [if_neg e2, if_neg e, if_pos (by omega)], by
                    dsimp only
                    have hj : j < (min ((b.1 li).2.2 + 1) 10) := hj
                    by_cases e : j = p
                    · subst e
                      rw [va_up_self, if_neg (by omega), if_pos rfl]
                    · rw [va_up_ne _ _ e, gt j]
                      by_cases e2 : j < p
                      · rw [if_pos e2, if_neg (by omega)]
                      · rw [if_neg e2, if_neg e, if_pos (by omega)]⟩⟩, rfl⟩)
                ·
                  exfalso
                  omega
              | succ i ih2 =>
                intro wt tl g1 g2 gw gt
                refine a_iload X d_Wl_offer_70 rfl ?_
                refine a_iload X d_Wl_offer_72 rfl ?_
                refine a_icmp_leN X 115 (by omega) (by omega) d_Wl_offer_74 (by decide) (fun c74 => ?_) (fun c74 => ?_)
                ·
                  refine a_aload_n X 0 d_Wl_offer_115 rfl rfl ?_
                  refine a_get X ff_Wl_9 d_Wl_offer_116 (hr_lo hli) rfl ?_
                  refine a_iload X d_Wl_offer_119 rfl ?_
                  refine a_lload_n X 1 d_Wl_offer_121 rfl rfl ?_
                  refine a_last X d_Wl_offer_122 (hr_lw hli) rfl (ab_ix_nI (by omega) (by decide)) ?_
                  refine ab_hp (hw_lw hli) ?_
                  refine ab_hp (show _ = hc r s w c (va_up b.1 li ((va_up wt p x), tl, (min ((b.1 li).2.2 + 1) 10)), b.2) d k t ++ Z from by simp only [bx_uu, va_up_self]) ?_
                  refine a_aload_n X 0 d_Wl_offer_123 rfl rfl ?_
                  refine a_get X ff_Wl_15 d_Wl_offer_124 (hr_lo hli) rfl ?_
                  refine a_iload X d_Wl_offer_127 rfl ?_
                  refine a_iload_n X 3 d_Wl_offer_129 rfl rfl ?_
                  refine a_iast X d_Wl_offer_130 (hr_lt hli) rfl (ab_ix_nI (by omega) (by decide)) ?_
                  refine ab_hp (hw_lt hli) ?_
                  refine ab_hp (show _ = hc r s w c (va_up b.1 li ((va_up wt p x), (va_up tl p y), (min ((b.1 li).2.2 + 1) 10)), b.2) d k t ++ Z from by simp only [bx_uu, va_up_self]) ?_
                  refine a_iconst X (v := nI 1) d_Wl_offer_131 (by decide) ?_
                  have hip : (i + 1) = p := by omega
                  exact a_zret X rfl d_Wl_offer_132 (Nat.le_refl _) (Nat.le_refl _) (Or.inr ⟨rfl, p, (va_up wt p x, va_up tl p y, (min ((b.1 li).2.2 + 1) 10)), hpos, by omega, ⟨rfl, fun j hj => ⟨by
                    dsimp only
                    have hj : j < (min ((b.1 li).2.2 + 1) 10) := hj
                    by_cases e : j = p
                    · subst e
                      rw [va_up_self, if_neg (by omega), if_pos rfl]
                    · rw [va_up_ne _ _ e, gw j]
                      by_cases e2 : j < p
                      · rw [if_pos e2, if_neg (by omega)]
                      · rw [if_neg e2, if_neg e, if_pos (by omega)], by
                    dsimp only
                    have hj : j < (min ((b.1 li).2.2 + 1) 10) := hj
                    by_cases e : j = p
                    · subst e
                      rw [va_up_self, if_neg (by omega), if_pos rfl]
                    · rw [va_up_ne _ _ e, gt j]
                      by_cases e2 : j < p
                      · rw [if_pos e2, if_neg (by omega)]
                      · rw [if_neg e2, if_neg e, if_pos (by omega)]⟩⟩, rfl⟩)
                ·
                  refine a_aload_n X 0 d_Wl_offer_77 rfl rfl ?_
                  refine a_get X ff_Wl_9 d_Wl_offer_78 (hr_lo hli) rfl ?_
                  refine a_iload X d_Wl_offer_81 rfl ?_
                  refine a_aload_n X 0 d_Wl_offer_83 rfl rfl ?_
                  refine a_get X ff_Wl_9 d_Wl_offer_84 (hr_lo hli) rfl ?_
                  refine a_iload X d_Wl_offer_87 rfl ?_
                  refine a_iconst X (v := nI 1) d_Wl_offer_89 (by decide) ?_
                  refine a_isub X d_Wl_offer_90 ?_
                  refine ab_topi (pk_sub (by omega)) ?_
                  refine ab_topi (congrArg nI (show i + 1 - 1 = i by omega)) ?_
                  refine a_lald X d_Wl_offer_91 (hr_lw hli) rfl (ab_ix_nI (by omega) (by decide)) ?_
                  refine ab_topl (congrArg lN (show ((va_up b.1 li (wt, tl, (min ((b.1 li).2.2 + 1) 10)), b.2).1 li).1 i = wt i from by dsimp only; rw [va_up_self])) ?_
                  refine a_last X d_Wl_offer_92 (hr_lw hli) rfl (ab_ix_nI (by omega) (by decide)) ?_
                  refine ab_hp (hw_lw hli) ?_
                  refine ab_hp (show _ = hc r s w c (va_up b.1 li ((va_up wt (i + 1) (wt i)), tl, (min ((b.1 li).2.2 + 1) 10)), b.2) d k t ++ Z from by simp only [bx_uu, va_up_self]) ?_
                  refine a_aload_n X 0 d_Wl_offer_93 rfl rfl ?_
                  refine a_get X ff_Wl_15 d_Wl_offer_94 (hr_lo hli) rfl ?_
                  refine a_iload X d_Wl_offer_97 rfl ?_
                  refine a_aload_n X 0 d_Wl_offer_99 rfl rfl ?_
                  refine a_get X ff_Wl_15 d_Wl_offer_100 (hr_lo hli) rfl ?_
                  refine a_iload X d_Wl_offer_103 rfl ?_
                  refine a_iconst X (v := nI 1) d_Wl_offer_105 (by decide) ?_
                  refine a_isub X d_Wl_offer_106 ?_
                  refine ab_topi (pk_sub (by omega)) ?_
                  refine ab_topi (congrArg nI (show i + 1 - 1 = i by omega)) ?_
                  refine a_iald X d_Wl_offer_107 (hr_lt hli) rfl (ab_ix_nI (by omega) (by decide)) ?_
                  refine ab_topi (congrArg nI (show ((va_up b.1 li (va_up wt (i + 1) (wt i), tl, (min ((b.1 li).2.2 + 1) 10)), b.2).1 li).2.1 i = tl i from by dsimp only; rw [va_up_self])) ?_
                  refine a_iast X d_Wl_offer_108 (hr_lt hli) rfl (ab_ix_nI (by omega) (by decide)) ?_
                  refine ab_hp (hw_lt hli) ?_
                  refine ab_hp (show _ = hc r s w c (va_up b.1 li ((va_up wt (i + 1) (wt i)), (va_up tl (i + 1) (tl i)), (min ((b.1 li).2.2 + 1) 10)), b.2) d k t ++ Z from by simp only [bx_uu, va_up_self]) ?_
                  refine a_decN X d_Wl_offer_109 rfl (by decide) ?_
                  refine a_goto X 70 d_Wl_offer_112 (by decide) ?_
                  refine ab_sub [(0, .ref (93 + 3 * li + 1)), (1, .long (lN x)), (3, .int (nI y)), (4, .int (nI p)), (5, .int (nI i))] rfl ?_
                  exact ih2 _ _ (by omega) (by omega) (fun j => by
                    by_cases e : j = i + 1
                    · subst e
                      rw [va_up_self, gw i, if_neg (by omega), if_pos (by omega)]
                      rfl
                    · rw [va_up_ne _ _ e, gw j]
                      by_cases e2 : i + 1 < j ∧ j < (min ((b.1 li).2.2 + 1) 10)
                      · rw [if_pos e2, if_pos (by omega)]
                      · rw [if_neg e2, if_neg (by omega)]) (fun j => by
                    by_cases e : j = i + 1
                    · subst e
                      rw [va_up_self, gt i, if_neg (by omega), if_pos (by omega)]
                      rfl
                    · rw [va_up_ne _ _ e, gt j]
                      by_cases e2 : i + 1 < j ∧ j < (min ((b.1 li).2.2 + 1) 10)
                      · rw [if_pos e2, if_pos (by omega)]
                      · rw [if_neg e2, if_neg (by omega)])
            ·
              refine a_iconst X (v := nI 0) d_Wl_offer_45 (by decide) ?_
              exact a_zret X rfl d_Wl_offer_46 (Nat.le_refl _) (Nat.le_refl _) (Or.inl ⟨rfl, rfl, Or.inr ⟨p, hpos, by omega⟩⟩)
          ·
            exfalso
            omega
  ·
    refine a_iconst X (v := nI 0) d_Wl_offer_6 (by decide) ?_
    exact a_zret X rfl d_Wl_offer_7 (Nat.le_refl _) (Nat.le_refl _) (Or.inl ⟨rfl, rfl, Or.inl (by omega)⟩)
