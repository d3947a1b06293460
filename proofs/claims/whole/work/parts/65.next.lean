set_option maxHeartbeats 4000000 in
set_option maxRecDepth 20000 in
theorem c_Mo_nxt_f {E : ab_E} {l : Launch} {r : hR} {s : hS} {w c : hW} {b : hB} {d : hD} {k : hK} {t : hT} {ms mk : hA} {mp : hP} {mw : Nat → Int32} {mc : hC} {md : Nat × (Nat → Int32)} {mt : hF} {me : hE} (hn0 : 0 < mp.1) (hn : mp.1 ≤ 6) (hq : ms.1 ≤ 4) : ab_Con E l y_Mo_next b_Mo_next 4 (some .boolean) 2 45 [.ref 204, .int (nI 1)] (hc r s w c b d k t ++ hm ms mk mp mw mc md mt me) 0 0 (fun v h1 => ∃ mw1 : Nat → Int32, ((∃ u, okV ms.1 mp.1 u ∧ (∀ i, i < mp.1 → mw1 i = nI (u i)) ∧ 0 ≤ cod u mp.1 ∧ (∀ u1, okV ms.1 mp.1 u1 → cod u1 mp.1 < cod u mp.1 → cod u1 mp.1 < 0) ∧ v = some (.int (nI 1))) ∨ ((∀ u, okV ms.1 mp.1 u → cod u mp.1 < 0) ∧ v = some (.int (nI 0)))) ∧ h1 = hc r s w c b d k t ++ hm ms mk mp mw1 mc md mt me) := by
  refine ab_con (own := "HiddenRowsModel") (ini := false) (by decide) (fun h => by cases h) rfl (Nat.le_of_ble_eq_true rfl) ?_
  intro G m X
  show ab_R E G m 4 0 0 0 [(0, .ref 204), (1, .int (nI 1))] [] (hc r s w c b d k t ++ hm ms mk mp mw mc md mt me)
  refine a_iload_n X 1 d_Mo_next_0 rfl rfl ?_
  refine a_if_eqN X 8 (by omega) d_Mo_next_1 (by decide) (fun c1 => ?_) (fun c1 => ?_)
  ·
    exfalso
    omega
  ·
    refine a_iconst X (v := nI 0) d_Mo_next_4 (by decide) ?_
    refine a_goto X 14 d_Mo_next_5 (by decide) ?_
    refine a_istore_n X 2 d_Mo_next_14 rfl (by decide) ?_
    refine a_iload_n X 1 d_Mo_next_15 rfl rfl ?_
    refine a_if_eqN X 26 (by omega) d_Mo_next_16 (by decide) (fun c16 => ?_) (fun c16 => ?_)
    ·
      exfalso
      omega
    ·
      refine a_aload_n X 0 d_Mo_next_19 rfl rfl ?_
      refine a_get X ff_Mo_28 d_Mo_next_20 mq_203 rfl ?_
      refine a_iconst X (v := nI 0) d_Mo_next_23 (by decide) ?_
      refine a_iconst X (v := -1) d_Mo_next_24 (by decide) ?_
      refine a_iast X d_Mo_next_25 mq_210 rfl (ab_ix_nI (by omega) (by decide)) ?_
      refine ab_hp ma_way ?_
      refine ab_sub [(0, .ref 204), (2, .int (nI 0))] rfl ?_
      obtain ⟨c0, hc0⟩ : ∃ c0, c0 = 0 := ⟨_, rfl⟩
      suffices LP : ∀ (mm p x : Nat) (vd : Nat → Nat) (mw : Nat → Int32), p < mp.1 → x ≤ 8 → okV ms.1 p vd → (∀ i, i < p → mw i = nI (vd i)) → mw p + nI 1 = nI x → c0 ≤ nB vd p x mp.1 → (∀ u, okV ms.1 mp.1 u → cod u mp.1 < nB vd p x mp.1 → cod u mp.1 < c0) → (8 ^ mp.1 - nB vd p x mp.1) * 20 + (if x = 0 then mp.1 - p else mp.1 + 1 + p) < mm → ab_R E G m 4 0 0 26 [(0, .ref 204), (2, .int (nI p))] [] (hc r s w c b d k t ++ hm ms mk mp mw mc md mt me) from LP _ 0 0 (fun _ => 0) (upd mw 0 (-1)) hn0 (by omega) (fun i hi => absurd hi (by omega)) (fun i hi => absurd hi (by omega)) (by rw [pk_us]; decide) (by rw [hc0]; exact Nat.zero_le _) (fun u hu h => absurd h (by unfold nB; show ¬ _ < (8 * 0 + 0) * _; rw [Nat.zero_mul]; omega)) (Nat.lt_succ_self _)
      intro mm
      induction mm with
      | zero => intro p x vd mw h1 h2 h3 h4 h5 h6 h7 h8; exfalso; omega
      | succ mm ih =>
        intro p x vd mw hp hx8 hok hv hmx hcB hno hmu
        have hd8 : ∀ i, i < p → vd i < 8 := fun i hi => (hok i hi).1
        refine a_iload_n X 2 d_Mo_next_26 rfl rfl ?_
        refine a_if_ltN X 102 (by omega) d_Mo_next_27 (by decide) ?_
        refine a_aload_n X 0 d_Mo_next_30 rfl rfl ?_
        refine a_get X ff_Mo_28 d_Mo_next_31 mq_203 rfl ?_
        refine a_iload_n X 2 d_Mo_next_34 rfl rfl ?_
        refine a_iald X d_Mo_next_35 mq_210 rfl (ab_ix_nI (by omega) (by decide)) ?_
        refine a_iconst X (v := nI 1) d_Mo_next_36 (by decide) ?_
        refine a_iadd X d_Mo_next_37 ?_
        refine ab_topi hmx ?_
        refine a_istore_n X 3 d_Mo_next_38 rfl (by decide) ?_
        refine ab_sub [(0, .ref 204), (2, .int (nI p)), (3, .int (nI x))] rfl ?_
        suffices LQ : ∀ (m2 y : Nat), y ≤ 8 → 8 - y < m2 → x ≤ y → (∀ u, okV ms.1 mp.1 u → cod u mp.1 < nB vd p y mp.1 → cod u mp.1 < c0) → ab_R E G m 4 0 0 39 [(0, .ref 204), (2, .int (nI p)), (3, .int (nI y))] [] (hc r s w c b d k t ++ hm ms mk mp mw mc md mt me) from LQ 9 x hx8 (by omega) (Nat.le_refl _) hno
        intro m2
        induction m2 with
        | zero => intro y h1 h2 h3 h4; exfalso; omega
        | succ m2 ih2 =>
          intro y hy8 hm2 hxy hny
          have hBy : nB vd p x mp.1 ≤ nB vd p y mp.1 ∧ (x < y → nB vd p x mp.1 < nB vd p y mp.1) := by
            rcases Nat.lt_or_ge x y with g | g
            · exact ⟨Nat.le_of_lt (nB_mono g), fun _ => nB_mono g⟩
            · obtain rfl : x = y := by omega
              exact ⟨Nat.le_refl _, fun q => absurd q (by omega)⟩
          have hB8 := nB_le (v := vd) hp hy8 hd8
          refine a_iload_n X 3 d_Mo_next_39 rfl rfl ?_
          refine a_bipush X (v := nI 8) d_Mo_next_40 (by decide) ?_
          refine a_icmp_geN X 60 (by omega) (by omega) d_Mo_next_42 (by decide) (fun c42 => ?_) (fun c42 => ?_)
          ·
            have hcb1 : cbR ms.1 vd p y = 1 ∨ y = 8 := Or.inr (by omega)
            refine a_iload_n X 3 d_Mo_next_60 rfl rfl ?_
            refine a_bipush X (v := nI 8) d_Mo_next_61 (by decide) ?_
            refine a_icmp_neN X 72 (by omega) (by omega) d_Mo_next_63 (by decide) (fun c63 => ?_) (fun c63 => ?_)
            ·
              have hcb1 := hcb1.resolve_right c63
              have hy7 : y < 8 := by omega
              refine a_aload_n X 0 d_Mo_next_72 rfl rfl ?_
              refine a_get X ff_Mo_28 d_Mo_next_73 mq_203 rfl ?_
              refine a_iload_n X 2 d_Mo_next_76 rfl rfl ?_
              refine a_iload_n X 3 d_Mo_next_77 rfl rfl ?_
              refine a_iast X d_Mo_next_78 mq_210 rfl (ab_ix_nI (by omega) (by decide)) ?_
              refine ab_hp ma_way ?_
              refine a_incN X d_Mo_next_79 rfl (by decide) ?_
              refine a_iload_n X 2 d_Mo_next_82 rfl rfl ?_
              refine a_aload_n X 0 d_Mo_next_83 rfl rfl ?_
              refine a_get X ff_Mo_82 d_Mo_next_84 mq_203 rfl ?_
              refine a_icmp_neN X 92 (by omega) (by omega) d_Mo_next_87 (by decide) (fun c87 => ?_) (fun c87 => ?_)
              ·
                refine a_aload_n X 0 d_Mo_next_92 rfl rfl ?_
                refine a_get X ff_Mo_28 d_Mo_next_93 mq_203 rfl ?_
                refine a_iload_n X 2 d_Mo_next_96 rfl rfl ?_
                refine a_iconst X (v := -1) d_Mo_next_97 (by decide) ?_
                refine a_iast X d_Mo_next_98 mq_210 rfl (ab_ix_nI (by omega) (by decide)) ?_
                refine ab_hp ma_way ?_
                refine a_goto X 26 d_Mo_next_99 (by decide) ?_
                refine ab_sub [(0, .ref 204), (2, .int (nI (p + 1)))] rfl ?_
                have hdn := nB_down (v := vd) (x := y) (show p + 1 < mp.1 by omega)
                refine ih (p + 1) 0 (va_up vd p y) (upd (upd mw p (nI y)) (p + 1) (-1)) (by omega) (by omega) (okV_up hok hy7 hcb1) (fun i hi => by
                  show upd (upd mw p (nI y)) (p + 1) (-1) i = nI (if i = p then y else vd i)
                  rw [pk_un (by omega)]
                  by_cases e : i = p
                  · rw [if_pos e, e, pk_us]
                  · rw [if_neg e, pk_un e]; exact hv i (by omega)) (by rw [pk_us]; decide) (by omega) (by rw [hdn]; exact hny) ?_
                rw [hdn, if_pos rfl]
                rcases Nat.lt_or_ge x y with g | g
                · have := hBy.2 g
                  split at hmu <;> omega
                · obtain rfl : x = y := by omega
                  split at hmu <;> omega
              ·
                have hend := nB_end (v := vd) (x := y) (show p + 1 = mp.1 by omega)
                refine a_iconst X (v := nI 1) d_Mo_next_90 (by decide) ?_
                exact a_zret X rfl d_Mo_next_91 (Nat.le_refl _) (Nat.le_refl _) ⟨upd mw p (nI y), Or.inl ⟨va_up vd p y, by rw [← show p + 1 = mp.1 by omega]; exact okV_up hok hy7 hcb1, fun i hi => by
                  show upd mw p (nI y) i = nI (if i = p then y else vd i)
                  by_cases e : i = p
                  · rw [if_pos e, e, pk_us]
                  · rw [if_neg e, pk_un e]; exact hv i (by omega), by omega, fun u hu h => by rw [hend] at h; have := hny u hu h; omega, rfl⟩, rfl⟩
            ·
              obtain rfl : y = 8 := by omega
              rcases p with _ | p
              ·
                refine a_iinc X d_Mo_next_66 rfl (v := -1) (by decide) (by decide) ?_
                refine a_goto X 99 d_Mo_next_69 (by decide) ?_
                refine a_goto X 26 d_Mo_next_99 (by decide) ?_
                refine a_iload_n X 2 d_Mo_next_26 rfl rfl ?_
                refine a_if_lt X 102 d_Mo_next_27 (by decide) (fun c27 => ?_) (fun c27 => ?_)
                ·
                  refine a_iconst X (v := nI 0) d_Mo_next_102 (by decide) ?_
                  exact a_zret X rfl d_Mo_next_103 (Nat.le_refl _) (Nat.le_refl _) ⟨mw, Or.inr ⟨fun u hu => by have h9 := hny u hu (by have g1 := cod_lt (v := u) (p := mp.1) (fun i hi => (hu i hi).1); unfold nB; show _ < (8 * 0 + 8) * _; rw [Nat.mul_comm, ← Nat.pow_succ, show (mp.1 - 1 - 0).succ = mp.1 by omega]; exact g1); rw [hc0] at h9; exact h9, rfl⟩, rfl⟩
                ·
                  exact absurd (show (-1 : Int32) < 0 by decide) c27
              ·
                refine a_decN X d_Mo_next_66 rfl (by decide) ?_
                refine a_goto X 99 d_Mo_next_69 (by decide) ?_
                refine a_goto X 26 d_Mo_next_99 (by decide) ?_
                refine ab_sub [(0, .ref 204), (2, .int (nI p))] rfl ?_
                have hup := nB_up (v := vd) hp
                refine ih p (vd p + 1) vd mw (by omega) (by have := hd8 p (by omega); omega) (fun i hi => hok i (by omega)) (fun i hi => hv i (by omega)) (by rw [hv p (by omega)]; exact nI_add _ _) (by omega) (by rw [← hup]; exact hny) ?_
                rw [← hup, if_neg (by omega)]
                rcases Nat.lt_or_ge x 8 with g | g
                · have := hBy.2 g
                  split at hmu <;> omega
                · obtain rfl : x = 8 := by omega
                  rw [if_neg (by omega)] at hmu
                  omega
          ·
            refine a_aload_n X 0 d_Mo_next_45 rfl rfl ?_
            refine a_iload_n X 2 d_Mo_next_46 rfl rfl ?_
            refine a_iload_n X 3 d_Mo_next_47 rfl rfl ?_
            refine a_callV X (a := 203) (As := [.int (nI _), .int (nI _)]) mq_203 rfl fb_Mo_canBe lk_Mo_109 im_Mo_canBe se_Mo_canBe (c_Mo_can (vd := vd) (by omega) hq (by omega) (fun i hi => ⟨hv i hi, hd8 i hi⟩)) rfl rfl (Nat.le_of_ble_eq_true rfl) (by decide) (by decide) (Nat.le_refl _) (Nat.le_refl _) d_Mo_next_48 (fun v h1 hp => ?_)
            obtain ⟨rfl, rfl⟩ := hp
            have hcb := cbR_le ms.1 vd p y
            refine a_if_neN X 60 (by omega) d_Mo_next_51 (by decide) (fun c51 => ?_) (fun c51 => ?_)
            ·
              have hcb1 : cbR ms.1 vd p y = 1 ∨ y = 8 := Or.inl (by omega)
              refine a_iload_n X 3 d_Mo_next_60 rfl rfl ?_
              refine a_bipush X (v := nI 8) d_Mo_next_61 (by decide) ?_
              refine a_icmp_neN X 72 (by omega) (by omega) d_Mo_next_63 (by decide) (fun c63 => ?_) (fun c63 => ?_)
              ·
                have hcb1 := hcb1.resolve_right c63
                have hy7 : y < 8 := by omega
                refine a_aload_n X 0 d_Mo_next_72 rfl rfl ?_
                refine a_get X ff_Mo_28 d_Mo_next_73 mq_203 rfl ?_
                refine a_iload_n X 2 d_Mo_next_76 rfl rfl ?_
                refine a_iload_n X 3 d_Mo_next_77 rfl rfl ?_
                refine a_iast X d_Mo_next_78 mq_210 rfl (ab_ix_nI (by omega) (by decide)) ?_
                refine ab_hp ma_way ?_
                refine a_incN X d_Mo_next_79 rfl (by decide) ?_
                refine a_iload_n X 2 d_Mo_next_82 rfl rfl ?_
                refine a_aload_n X 0 d_Mo_next_83 rfl rfl ?_
                refine a_get X ff_Mo_82 d_Mo_next_84 mq_203 rfl ?_
                refine a_icmp_neN X 92 (by omega) (by omega) d_Mo_next_87 (by decide) (fun c87 => ?_) (fun c87 => ?_)
                ·
                  refine a_aload_n X 0 d_Mo_next_92 rfl rfl ?_
                  refine a_get X ff_Mo_28 d_Mo_next_93 mq_203 rfl ?_
                  refine a_iload_n X 2 d_Mo_next_96 rfl rfl ?_
                  refine a_iconst X (v := -1) d_Mo_next_97 (by decide) ?_
                  refine a_iast X d_Mo_next_98 mq_210 rfl (ab_ix_nI (by omega) (by decide)) ?_
                  refine ab_hp ma_way ?_
                  refine a_goto X 26 d_Mo_next_99 (by decide) ?_
                  refine ab_sub [(0, .ref 204), (2, .int (nI (p + 1)))] rfl ?_
                  have hdn := nB_down (v := vd) (x := y) (show p + 1 < mp.1 by omega)
                  refine ih (p + 1) 0 (va_up vd p y) (upd (upd mw p (nI y)) (p + 1) (-1)) (by omega) (by omega) (okV_up hok hy7 hcb1) (fun i hi => by
                    show upd (upd mw p (nI y)) (p + 1) (-1) i = nI (if i = p then y else vd i)
                    rw [pk_un (by omega)]
                    by_cases e : i = p
                    · rw [if_pos e, e, pk_us]
                    · rw [if_neg e, pk_un e]; exact hv i (by omega)) (by rw [pk_us]; decide) (by omega) (by rw [hdn]; exact hny) ?_
                  rw [hdn, if_pos rfl]
                  rcases Nat.lt_or_ge x y with g | g
                  · have := hBy.2 g
                    split at hmu <;> omega
                  · obtain rfl : x = y := by omega
                    split at hmu <;> omega
                ·
                  have hend := nB_end (v := vd) (x := y) (show p + 1 = mp.1 by omega)
                  refine a_iconst X (v := nI 1) d_Mo_next_90 (by decide) ?_
                  exact a_zret X rfl d_Mo_next_91 (Nat.le_refl _) (Nat.le_refl _) ⟨upd mw p (nI y), Or.inl ⟨va_up vd p y, by rw [← show p + 1 = mp.1 by omega]; exact okV_up hok hy7 hcb1, fun i hi => by
                    show upd mw p (nI y) i = nI (if i = p then y else vd i)
                    by_cases e : i = p
                    · rw [if_pos e, e, pk_us]
                    · rw [if_neg e, pk_un e]; exact hv i (by omega), by omega, fun u hu h => by rw [hend] at h; have := hny u hu h; omega, rfl⟩, rfl⟩
              ·
                obtain rfl : y = 8 := by omega
                rcases p with _ | p
                ·
                  refine a_iinc X d_Mo_next_66 rfl (v := -1) (by decide) (by decide) ?_
                  refine a_goto X 99 d_Mo_next_69 (by decide) ?_
                  refine a_goto X 26 d_Mo_next_99 (by decide) ?_
                  refine a_iload_n X 2 d_Mo_next_26 rfl rfl ?_
                  refine a_if_lt X 102 d_Mo_next_27 (by decide) (fun c27 => ?_) (fun c27 => ?_)
                  ·
                    refine a_iconst X (v := nI 0) d_Mo_next_102 (by decide) ?_
                    exact a_zret X rfl d_Mo_next_103 (Nat.le_refl _) (Nat.le_refl _) ⟨mw, Or.inr ⟨fun u hu => by have h9 := hny u hu (by have g1 := cod_lt (v := u) (p := mp.1) (fun i hi => (hu i hi).1); unfold nB; show _ < (8 * 0 + 8) * _; rw [Nat.mul_comm, ← Nat.pow_succ, show (mp.1 - 1 - 0).succ = mp.1 by omega]; exact g1); rw [hc0] at h9; exact h9, rfl⟩, rfl⟩
                  ·
                    exact absurd (show (-1 : Int32) < 0 by decide) c27
                ·
                  refine a_decN X d_Mo_next_66 rfl (by decide) ?_
                  refine a_goto X 99 d_Mo_next_69 (by decide) ?_
                  refine a_goto X 26 d_Mo_next_99 (by decide) ?_
                  refine ab_sub [(0, .ref 204), (2, .int (nI p))] rfl ?_
                  have hup := nB_up (v := vd) hp
                  refine ih p (vd p + 1) vd mw (by omega) (by have := hd8 p (by omega); omega) (fun i hi => hok i (by omega)) (fun i hi => hv i (by omega)) (by rw [hv p (by omega)]; exact nI_add _ _) (by omega) (by rw [← hup]; exact hny) ?_
                  rw [← hup, if_neg (by omega)]
                  rcases Nat.lt_or_ge x 8 with g | g
                  · have := hBy.2 g
                    split at hmu <;> omega
                  · obtain rfl : x = 8 := by omega
                    rw [if_neg (by omega)] at hmu
                    omega
            ·
              refine a_incN X d_Mo_next_54 rfl (by decide) ?_
              refine a_goto X 39 d_Mo_next_57 (by decide) ?_
              refine ab_sub [(0, .ref 204), (2, .int (nI p)), (3, .int (nI (y + 1)))] rfl ?_
              exact ih2 (y + 1) (by omega) (by omega) (by omega) (nB_skip hp (by omega) hok (by omega) hny)
set_option maxHeartbeats 4000000 in
set_option maxRecDepth 20000 in
theorem c_Mo_nxt_n {E : ab_E} {l : Launch} {r : hR} {s : hS} {w c : hW} {b : hB} {d : hD} {k : hK} {t : hT} {ms mk : hA} {mp : hP} {mw : Nat → Int32} {mc : hC} {md : Nat × (Nat → Int32)} {mt : hF} {me : hE} {vd : Nat → Nat} (hn0 : 0 < mp.1) (hn : mp.1 ≤ 6) (hq : ms.1 ≤ 4) (hok : okV ms.1 mp.1 vd) (hv : ∀ i, i < mp.1 → mw i = nI (vd i)) : ab_Con E l y_Mo_next b_Mo_next 4 (some .boolean) 2 45 [.ref 204, .int (nI 0)] (hc r s w c b d k t ++ hm ms mk mp mw mc md mt me) 0 0 (fun v h1 => ∃ mw1 : Nat → Int32, ((∃ u, okV ms.1 mp.1 u ∧ (∀ i, i < mp.1 → mw1 i = nI (u i)) ∧ (cod vd mp.1 + 1) ≤ cod u mp.1 ∧ (∀ u1, okV ms.1 mp.1 u1 → cod u1 mp.1 < cod u mp.1 → cod u1 mp.1 < (cod vd mp.1 + 1)) ∧ v = some (.int (nI 1))) ∨ ((∀ u, okV ms.1 mp.1 u → cod u mp.1 < (cod vd mp.1 + 1)) ∧ v = some (.int (nI 0)))) ∧ h1 = hc r s w c b d k t ++ hm ms mk mp mw1 mc md mt me) := by
  refine ab_con (own := "HiddenRowsModel") (ini := false) (by decide) (fun h => by cases h) rfl (Nat.le_of_ble_eq_true rfl) ?_
  intro G m X
  show ab_R E G m 4 0 0 0 [(0, .ref 204), (1, .int (nI 0))] [] (hc r s w c b d k t ++ hm ms mk mp mw mc md mt me)
  refine a_iload_n X 1 d_Mo_next_0 rfl rfl ?_
  refine a_if_eqN X 8 (by omega) d_Mo_next_1 (by decide) (fun c1 => ?_) (fun c1 => ?_)
  ·
    refine a_aload_n X 0 d_Mo_next_8 rfl rfl ?_
    refine a_get X ff_Mo_82 d_Mo_next_9 mq_203 rfl ?_
    refine a_iconst X (v := nI 1) d_Mo_next_12 (by decide) ?_
    refine a_isub X d_Mo_next_13 ?_
    refine ab_topi (pk_sub (by omega)) ?_
    refine a_istore_n X 2 d_Mo_next_14 rfl (by decide) ?_
    refine a_iload_n X 1 d_Mo_next_15 rfl rfl ?_
    refine a_if_eqN X 26 (by omega) d_Mo_next_16 (by decide) (fun c16 => ?_) (fun c16 => ?_)
    ·
      refine ab_sub [(0, .ref 204), (2, .int (nI (mp.1 - 1)))] rfl ?_
      obtain ⟨c0, hc0⟩ : ∃ c0, c0 = (cod vd mp.1 + 1) := ⟨_, rfl⟩
      suffices LP : ∀ (mm p x : Nat) (vd : Nat → Nat) (mw : Nat → Int32), p < mp.1 → x ≤ 8 → okV ms.1 p vd → (∀ i, i < p → mw i = nI (vd i)) → mw p + nI 1 = nI x → c0 ≤ nB vd p x mp.1 → (∀ u, okV ms.1 mp.1 u → cod u mp.1 < nB vd p x mp.1 → cod u mp.1 < c0) → (8 ^ mp.1 - nB vd p x mp.1) * 20 + (if x = 0 then mp.1 - p else mp.1 + 1 + p) < mm → ab_R E G m 4 0 0 26 [(0, .ref 204), (2, .int (nI p))] [] (hc r s w c b d k t ++ hm ms mk mp mw mc md mt me) from LP _ (mp.1 - 1) (vd (mp.1 - 1) + 1) vd mw (by omega) (by have := (hok (mp.1 - 1) (by omega)).1; omega) (fun i hi => hok i (by omega)) (fun i hi => hv i (by omega)) (by rw [hv (mp.1 - 1) (by omega)]; exact nI_add _ _) (by rw [nB_last hn0, hc0]; exact Nat.le_refl _) (fun u hu h => by rw [nB_last hn0] at h; rw [hc0]; exact h) (Nat.lt_succ_self _)
      clear hv hok
      intro mm
      induction mm with
      | zero => intro p x vd mw h1 h2 h3 h4 h5 h6 h7 h8; exfalso; omega
      | succ mm ih =>
        intro p x vd mw hp hx8 hok hv hmx hcB hno hmu
        have hd8 : ∀ i, i < p → vd i < 8 := fun i hi => (hok i hi).1
        refine a_iload_n X 2 d_Mo_next_26 rfl rfl ?_
        refine a_if_ltN X 102 (by omega) d_Mo_next_27 (by decide) ?_
        refine a_aload_n X 0 d_Mo_next_30 rfl rfl ?_
        refine a_get X ff_Mo_28 d_Mo_next_31 mq_203 rfl ?_
        refine a_iload_n X 2 d_Mo_next_34 rfl rfl ?_
        refine a_iald X d_Mo_next_35 mq_210 rfl (ab_ix_nI (by omega) (by decide)) ?_
        refine a_iconst X (v := nI 1) d_Mo_next_36 (by decide) ?_
        refine a_iadd X d_Mo_next_37 ?_
        refine ab_topi hmx ?_
        refine a_istore_n X 3 d_Mo_next_38 rfl (by decide) ?_
        refine ab_sub [(0, .ref 204), (2, .int (nI p)), (3, .int (nI x))] rfl ?_
        suffices LQ : ∀ (m2 y : Nat), y ≤ 8 → 8 - y < m2 → x ≤ y → (∀ u, okV ms.1 mp.1 u → cod u mp.1 < nB vd p y mp.1 → cod u mp.1 < c0) → ab_R E G m 4 0 0 39 [(0, .ref 204), (2, .int (nI p)), (3, .int (nI y))] [] (hc r s w c b d k t ++ hm ms mk mp mw mc md mt me) from LQ 9 x hx8 (by omega) (Nat.le_refl _) hno
        intro m2
        induction m2 with
        | zero => intro y h1 h2 h3 h4; exfalso; omega
        | succ m2 ih2 =>
          intro y hy8 hm2 hxy hny
          have hBy : nB vd p x mp.1 ≤ nB vd p y mp.1 ∧ (x < y → nB vd p x mp.1 < nB vd p y mp.1) := by
            rcases Nat.lt_or_ge x y with g | g
            · exact ⟨Nat.le_of_lt (nB_mono g), fun _ => nB_mono g⟩
            · obtain rfl : x = y := by omega
              exact ⟨Nat.le_refl _, fun q => absurd q (by omega)⟩
          have hB8 := nB_le (v := vd) hp hy8 hd8
          refine a_iload_n X 3 d_Mo_next_39 rfl rfl ?_
          refine a_bipush X (v := nI 8) d_Mo_next_40 (by decide) ?_
          refine a_icmp_geN X 60 (by omega) (by omega) d_Mo_next_42 (by decide) (fun c42 => ?_) (fun c42 => ?_)
          ·
            have hcb1 : cbR ms.1 vd p y = 1 ∨ y = 8 := Or.inr (by omega)
            refine a_iload_n X 3 d_Mo_next_60 rfl rfl ?_
            refine a_bipush X (v := nI 8) d_Mo_next_61 (by decide) ?_
            refine a_icmp_neN X 72 (by omega) (by omega) d_Mo_next_63 (by decide) (fun c63 => ?_) (fun c63 => ?_)
            ·
              have hcb1 := hcb1.resolve_right c63
              have hy7 : y < 8 := by omega
              refine a_aload_n X 0 d_Mo_next_72 rfl rfl ?_
              refine a_get X ff_Mo_28 d_Mo_next_73 mq_203 rfl ?_
              refine a_iload_n X 2 d_Mo_next_76 rfl rfl ?_
              refine a_iload_n X 3 d_Mo_next_77 rfl rfl ?_
              refine a_iast X d_Mo_next_78 mq_210 rfl (ab_ix_nI (by omega) (by decide)) ?_
              refine ab_hp ma_way ?_
              refine a_incN X d_Mo_next_79 rfl (by decide) ?_
              refine a_iload_n X 2 d_Mo_next_82 rfl rfl ?_
              refine a_aload_n X 0 d_Mo_next_83 rfl rfl ?_
              refine a_get X ff_Mo_82 d_Mo_next_84 mq_203 rfl ?_
              refine a_icmp_neN X 92 (by omega) (by omega) d_Mo_next_87 (by decide) (fun c87 => ?_) (fun c87 => ?_)
              ·
                refine a_aload_n X 0 d_Mo_next_92 rfl rfl ?_
                refine a_get X ff_Mo_28 d_Mo_next_93 mq_203 rfl ?_
                refine a_iload_n X 2 d_Mo_next_96 rfl rfl ?_
                refine a_iconst X (v := -1) d_Mo_next_97 (by decide) ?_
                refine a_iast X d_Mo_next_98 mq_210 rfl (ab_ix_nI (by omega) (by decide)) ?_
                refine ab_hp ma_way ?_
                refine a_goto X 26 d_Mo_next_99 (by decide) ?_
                refine ab_sub [(0, .ref 204), (2, .int (nI (p + 1)))] rfl ?_
                have hdn := nB_down (v := vd) (x := y) (show p + 1 < mp.1 by omega)
                refine ih (p + 1) 0 (va_up vd p y) (upd (upd mw p (nI y)) (p + 1) (-1)) (by omega) (by omega) (okV_up hok hy7 hcb1) (fun i hi => by
                  show upd (upd mw p (nI y)) (p + 1) (-1) i = nI (if i = p then y else vd i)
                  rw [pk_un (by omega)]
                  by_cases e : i = p
                  · rw [if_pos e, e, pk_us]
                  · rw [if_neg e, pk_un e]; exact hv i (by omega)) (by rw [pk_us]; decide) (by omega) (by rw [hdn]; exact hny) ?_
                rw [hdn, if_pos rfl]
                rcases Nat.lt_or_ge x y with g | g
                · have := hBy.2 g
                  split at hmu <;> omega
                · obtain rfl : x = y := by omega
                  split at hmu <;> omega
              ·
                have hend := nB_end (v := vd) (x := y) (show p + 1 = mp.1 by omega)
                refine a_iconst X (v := nI 1) d_Mo_next_90 (by decide) ?_
                exact a_zret X rfl d_Mo_next_91 (Nat.le_refl _) (Nat.le_refl _) ⟨upd mw p (nI y), Or.inl ⟨va_up vd p y, by rw [← show p + 1 = mp.1 by omega]; exact okV_up hok hy7 hcb1, fun i hi => by
                  show upd mw p (nI y) i = nI (if i = p then y else vd i)
                  by_cases e : i = p
                  · rw [if_pos e, e, pk_us]
                  · rw [if_neg e, pk_un e]; exact hv i (by omega), by omega, fun u hu h => by rw [hend] at h; have := hny u hu h; omega, rfl⟩, rfl⟩
            ·
              obtain rfl : y = 8 := by omega
              rcases p with _ | p
              ·
                refine a_iinc X d_Mo_next_66 rfl (v := -1) (by decide) (by decide) ?_
                refine a_goto X 99 d_Mo_next_69 (by decide) ?_
                refine a_goto X 26 d_Mo_next_99 (by decide) ?_
                refine a_iload_n X 2 d_Mo_next_26 rfl rfl ?_
                refine a_if_lt X 102 d_Mo_next_27 (by decide) (fun c27 => ?_) (fun c27 => ?_)
                ·
                  refine a_iconst X (v := nI 0) d_Mo_next_102 (by decide) ?_
                  exact a_zret X rfl d_Mo_next_103 (Nat.le_refl _) (Nat.le_refl _) ⟨mw, Or.inr ⟨fun u hu => by have h9 := hny u hu (by have g1 := cod_lt (v := u) (p := mp.1) (fun i hi => (hu i hi).1); unfold nB; show _ < (8 * 0 + 8) * _; rw [Nat.mul_comm, ← Nat.pow_succ, show (mp.1 - 1 - 0).succ = mp.1 by omega]; exact g1); rw [hc0] at h9; exact h9, rfl⟩, rfl⟩
                ·
                  exact absurd (show (-1 : Int32) < 0 by decide) c27
              ·
                refine a_decN X d_Mo_next_66 rfl (by decide) ?_
                refine a_goto X 99 d_Mo_next_69 (by decide) ?_
                refine a_goto X 26 d_Mo_next_99 (by decide) ?_
                refine ab_sub [(0, .ref 204), (2, .int (nI p))] rfl ?_
                have hup := nB_up (v := vd) hp
                refine ih p (vd p + 1) vd mw (by omega) (by have := hd8 p (by omega); omega) (fun i hi => hok i (by omega)) (fun i hi => hv i (by omega)) (by rw [hv p (by omega)]; exact nI_add _ _) (by omega) (by rw [← hup]; exact hny) ?_
                rw [← hup, if_neg (by omega)]
                rcases Nat.lt_or_ge x 8 with g | g
                · have := hBy.2 g
                  split at hmu <;> omega
                · obtain rfl : x = 8 := by omega
                  rw [if_neg (by omega)] at hmu
                  omega
          ·
            refine a_aload_n X 0 d_Mo_next_45 rfl rfl ?_
            refine a_iload_n X 2 d_Mo_next_46 rfl rfl ?_
            refine a_iload_n X 3 d_Mo_next_47 rfl rfl ?_
            refine a_callV X (a := 203) (As := [.int (nI _), .int (nI _)]) mq_203 rfl fb_Mo_canBe lk_Mo_109 im_Mo_canBe se_Mo_canBe (c_Mo_can (vd := vd) (by omega) hq (by omega) (fun i hi => ⟨hv i hi, hd8 i hi⟩)) rfl rfl (Nat.le_of_ble_eq_true rfl) (by decide) (by decide) (Nat.le_refl _) (Nat.le_refl _) d_Mo_next_48 (fun v h1 hp => ?_)
            obtain ⟨rfl, rfl⟩ := hp
            have hcb := cbR_le ms.1 vd p y
            refine a_if_neN X 60 (by omega) d_Mo_next_51 (by decide) (fun c51 => ?_) (fun c51 => ?_)
            ·
              have hcb1 : cbR ms.1 vd p y = 1 ∨ y = 8 := Or.inl (by omega)
              refine a_iload_n X 3 d_Mo_next_60 rfl rfl ?_
              refine a_bipush X (v := nI 8) d_Mo_next_61 (by decide) ?_
              refine a_icmp_neN X 72 (by omega) (by omega) d_Mo_next_63 (by decide) (fun c63 => ?_) (fun c63 => ?_)
              ·
                have hcb1 := hcb1.resolve_right c63
                have hy7 : y < 8 := by omega
                refine a_aload_n X 0 d_Mo_next_72 rfl rfl ?_
                refine a_get X ff_Mo_28 d_Mo_next_73 mq_203 rfl ?_
                refine a_iload_n X 2 d_Mo_next_76 rfl rfl ?_
                refine a_iload_n X 3 d_Mo_next_77 rfl rfl ?_
                refine a_iast X d_Mo_next_78 mq_210 rfl (ab_ix_nI (by omega) (by decide)) ?_
                refine ab_hp ma_way ?_
                refine a_incN X d_Mo_next_79 rfl (by decide) ?_
                refine a_iload_n X 2 d_Mo_next_82 rfl rfl ?_
                refine a_aload_n X 0 d_Mo_next_83 rfl rfl ?_
                refine a_get X ff_Mo_82 d_Mo_next_84 mq_203 rfl ?_
                refine a_icmp_neN X 92 (by omega) (by omega) d_Mo_next_87 (by decide) (fun c87 => ?_) (fun c87 => ?_)
                ·
                  refine a_aload_n X 0 d_Mo_next_92 rfl rfl ?_
                  refine a_get X ff_Mo_28 d_Mo_next_93 mq_203 rfl ?_
                  refine a_iload_n X 2 d_Mo_next_96 rfl rfl ?_
                  refine a_iconst X (v := -1) d_Mo_next_97 (by decide) ?_
                  refine a_iast X d_Mo_next_98 mq_210 rfl (ab_ix_nI (by omega) (by decide)) ?_
                  refine ab_hp ma_way ?_
                  refine a_goto X 26 d_Mo_next_99 (by decide) ?_
                  refine ab_sub [(0, .ref 204), (2, .int (nI (p + 1)))] rfl ?_
                  have hdn := nB_down (v := vd) (x := y) (show p + 1 < mp.1 by omega)
                  refine ih (p + 1) 0 (va_up vd p y) (upd (upd mw p (nI y)) (p + 1) (-1)) (by omega) (by omega) (okV_up hok hy7 hcb1) (fun i hi => by
                    show upd (upd mw p (nI y)) (p + 1) (-1) i = nI (if i = p then y else vd i)
                    rw [pk_un (by omega)]
                    by_cases e : i = p
                    · rw [if_pos e, e, pk_us]
                    · rw [if_neg e, pk_un e]; exact hv i (by omega)) (by rw [pk_us]; decide) (by omega) (by rw [hdn]; exact hny) ?_
                  rw [hdn, if_pos rfl]
                  rcases Nat.lt_or_ge x y with g | g
                  · have := hBy.2 g
                    split at hmu <;> omega
                  · obtain rfl : x = y := by omega
                    split at hmu <;> omega
                ·
                  have hend := nB_end (v := vd) (x := y) (show p + 1 = mp.1 by omega)
                  refine a_iconst X (v := nI 1) d_Mo_next_90 (by decide) ?_
                  exact a_zret X rfl d_Mo_next_91 (Nat.le_refl _) (Nat.le_refl _) ⟨upd mw p (nI y), Or.inl ⟨va_up vd p y, by rw [← show p + 1 = mp.1 by omega]; exact okV_up hok hy7 hcb1, fun i hi => by
                    show upd mw p (nI y) i = nI (if i = p then y else vd i)
                    by_cases e : i = p
                    · rw [if_pos e, e, pk_us]
                    · rw [if_neg e, pk_un e]; exact hv i (by omega), by omega, fun u hu h => by rw [hend] at h; have := hny u hu h; omega, rfl⟩, rfl⟩
              ·
                obtain rfl : y = 8 := by omega
                rcases p with _ | p
                ·
                  refine a_iinc X d_Mo_next_66 rfl (v := -1) (by decide) (by decide) ?_
                  refine a_goto X 99 d_Mo_next_69 (by decide) ?_
                  refine a_goto X 26 d_Mo_next_99 (by decide) ?_
                  refine a_iload_n X 2 d_Mo_next_26 rfl rfl ?_
                  refine a_if_lt X 102 d_Mo_next_27 (by decide) (fun c27 => ?_) (fun c27 => ?_)
                  ·
                    refine a_iconst X (v := nI 0) d_Mo_next_102 (by decide) ?_
                    exact a_zret X rfl d_Mo_next_103 (Nat.le_refl _) (Nat.le_refl _) ⟨mw, Or.inr ⟨fun u hu => by have h9 := hny u hu (by have g1 := cod_lt (v := u) (p := mp.1) (fun i hi => (hu i hi).1); unfold nB; show _ < (8 * 0 + 8) * _; rw [Nat.mul_comm, ← Nat.pow_succ, show (mp.1 - 1 - 0).succ = mp.1 by omega]; exact g1); rw [hc0] at h9; exact h9, rfl⟩, rfl⟩
                  ·
                    exact absurd (show (-1 : Int32) < 0 by decide) c27
                ·
                  refine a_decN X d_Mo_next_66 rfl (by decide) ?_
                  refine a_goto X 99 d_Mo_next_69 (by decide) ?_
                  refine a_goto X 26 d_Mo_next_99 (by decide) ?_
                  refine ab_sub [(0, .ref 204), (2, .int (nI p))] rfl ?_
                  have hup := nB_up (v := vd) hp
                  refine ih p (vd p + 1) vd mw (by omega) (by have := hd8 p (by omega); omega) (fun i hi => hok i (by omega)) (fun i hi => hv i (by omega)) (by rw [hv p (by omega)]; exact nI_add _ _) (by omega) (by rw [← hup]; exact hny) ?_
                  rw [← hup, if_neg (by omega)]
                  rcases Nat.lt_or_ge x 8 with g | g
                  · have := hBy.2 g
                    split at hmu <;> omega
                  · obtain rfl : x = 8 := by omega
                    rw [if_neg (by omega)] at hmu
                    omega
            ·
              refine a_incN X d_Mo_next_54 rfl (by decide) ?_
              refine a_goto X 39 d_Mo_next_57 (by decide) ?_
              refine ab_sub [(0, .ref 204), (2, .int (nI p)), (3, .int (nI (y + 1)))] rfl ?_
              exact ih2 (y + 1) (by omega) (by omega) (by omega) (nB_skip hp (by omega) hok (by omega) hny)
    ·
      exfalso
      omega
  ·
    exfalso
    omega
