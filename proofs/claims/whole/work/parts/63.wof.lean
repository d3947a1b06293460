def wB (mp : hP) (vd : Nat → Nat) (p a : Nat) : Nat := if ¬ mp.2.2 p < 0 ∧ mp.2.2 p ≠ nI (vd p / 2) then 0 else a
def wE (vd : Nat → Nat) (n p : Nat) : Nat := if p + 1 = n ∨ vd (p + 1) % 2 = 0 then 1 else 0
def wC (ms : hA) (vd : Nat → Nat) (e p a : Nat) : Nat := if e = 0 then a else a * ms.2.1 (9 * (vd p / 2) + 1 + sty vd p)
def wD (ms : hA) (vd : Nat → Nat) (n e p a : Nat) : Nat := if e = 0 then a else if p + 1 < n then a * ms.2.2 (4 * (vd p / 2) + vd (p + 1) / 2) else a
def wac (ms : hA) (mp : hP) (vd : Nat → Nat) : Nat → Nat
  | 0 => ms.2.1 (9 * (vd 0 / 2)) * ms.2.1 (9 * (vd (mp.1 - 1) / 2) + 1)
  | p + 1 => wD ms vd mp.1 (wE vd mp.1 p) p (wC ms vd (wE vd mp.1 p) p (wB mp vd p (wac ms mp vd p * msh (vS ms).1 (mp.2.1 p) (vd p / 2))))
theorem wE_le (vd : Nat → Nat) (n p : Nat) : wE vd n p ≤ 1 := by
  unfold wE
  split <;> omega
theorem msh_le {f : hG} (h : ∀ i j, f i j ≤ 4) (x : Int32) (st : Nat) : msh f x st ≤ 16 := by
  unfold msh
  split
  · rw [sum4]
    have h0 := h st (5 + 0)
    have h1 := h st (5 + 1)
    have h2 := h st (5 + 2)
    have h3 := h st (5 + 3)
    omega
  · exact Nat.le_trans (h _ _) (by omega)
set_option maxHeartbeats 4000000 in
set_option maxRecDepth 20000 in
theorem c_Mo_wof {E : ab_E} {l : Launch} {r : hR} {s : hS} {w c : hW} {b : hB} {d : hD} {k : hK} {t : hT} {ms mk : hA} {mp : hP} {mw : Nat → Int32} {mc : hC} {md : Nat × (Nat → Int32)} {mt : hF} {me : hE} {vd : Nat → Nat} (hn0 : 0 < mp.1) (hn : mp.1 ≤ 6) (hw4 : ∀ i, ms.2.1 i ≤ 4) (hm4 : ∀ i, ms.2.2 i ≤ 4) (hsg : ∀ p, p < 6 → mp.2.1 p = -1 ∨ ∃ z, z < 4 ∧ mp.2.1 p = nI z) (hv : ∀ i, i < mp.1 → mw i = nI (vd i) ∧ vd i < 8) : ab_Con E l y_Mo_weightOf b_Mo_weightOf 6 (some .long) 1 24 [.ref 204] (hc r s w c b d k t ++ hm ms mk mp mw mc md mt me) 0 0 (fun v h1 => v = some (.long (lN (wac ms mp vd mp.1))) ∧ h1 = hc r s w c b d k t ++ hm ms mk mp mw mc md mt me) := by
  refine ab_con (own := "HiddenRowsModel") (ini := false) (by decide) (fun h => by cases h) rfl (Nat.le_of_ble_eq_true rfl) ?_
  intro G m X
  show ab_R E G m 6 0 0 0 [(0, .ref 204)] [] (hc r s w c b d k t ++ hm ms mk mp mw mc md mt me)
  refine a_aload_n X 0 d_Mo_weightOf_0 rfl rfl ?_
  refine a_get X ff_Mo_7 d_Mo_weightOf_1 mq_203 rfl ?_
  refine a_bipush X (v := nI 9) d_Mo_weightOf_4 (by decide) ?_
  refine a_aload_n X 0 d_Mo_weightOf_6 rfl rfl ?_
  refine a_get X ff_Mo_28 d_Mo_weightOf_7 mq_203 rfl ?_
  refine a_iconst X (v := nI 0) d_Mo_weightOf_10 (by decide) ?_
  refine a_iald X d_Mo_weightOf_11 mq_210 rfl (ab_ix_nI (by omega) (by decide)) ?_
  refine ab_topi (hv 0 (by omega)).1 ?_
  have hv8 := (hv 0 (by omega)).2
  refine a_iconst X (v := nI 2) d_Mo_weightOf_12 (by decide) ?_
  refine a_idiv X d_Mo_weightOf_13 (by decide) ?_
  refine ab_topi (pk_div (by omega) (by omega) (by omega)) ?_
  refine a_imul X d_Mo_weightOf_14 ?_
  refine ab_topi (pk_mul _ _) ?_
  refine a_iald X d_Mo_weightOf_15 mq_204 rfl (ab_ix_nI (by omega) (by decide)) ?_
  refine a_aload_n X 0 d_Mo_weightOf_16 rfl rfl ?_
  refine a_get X ff_Mo_7 d_Mo_weightOf_17 mq_203 rfl ?_
  refine a_bipush X (v := nI 9) d_Mo_weightOf_20 (by decide) ?_
  refine a_aload_n X 0 d_Mo_weightOf_22 rfl rfl ?_
  refine a_get X ff_Mo_28 d_Mo_weightOf_23 mq_203 rfl ?_
  refine a_aload_n X 0 d_Mo_weightOf_26 rfl rfl ?_
  refine a_get X ff_Mo_82 d_Mo_weightOf_27 mq_203 rfl ?_
  refine a_iconst X (v := nI 1) d_Mo_weightOf_30 (by decide) ?_
  refine a_isub X d_Mo_weightOf_31 ?_
  refine ab_topi (pk_sub (by omega)) ?_
  refine a_iald X d_Mo_weightOf_32 mq_210 rfl (ab_ix_nI (by omega) (by decide)) ?_
  refine ab_topi (hv (mp.1 - 1) (by omega)).1 ?_
  have hv8 := (hv (mp.1 - 1) (by omega)).2
  refine a_iconst X (v := nI 2) d_Mo_weightOf_33 (by decide) ?_
  refine a_idiv X d_Mo_weightOf_34 (by decide) ?_
  refine ab_topi (pk_div (by omega) (by omega) (by omega)) ?_
  refine a_imul X d_Mo_weightOf_35 ?_
  refine ab_topi (pk_mul _ _) ?_
  refine a_iconst X (v := nI 1) d_Mo_weightOf_36 (by decide) ?_
  refine a_iadd X d_Mo_weightOf_37 ?_
  refine ab_topi (nI_add _ _) ?_
  refine a_iald X d_Mo_weightOf_38 mq_204 rfl (ab_ix_nI (by omega) (by decide)) ?_
  refine a_imul X d_Mo_weightOf_39 ?_
  refine ab_topi (pk_mul _ _) ?_
  refine a_i2l X d_Mo_weightOf_40 ?_
  refine ab_topl (nI_l (by have a1 := hw4 (9 * (vd 0 / 2)); have a2 := hw4 (9 * (vd (mp.1 - 1) / 2) + 1); have := Nat.mul_le_mul a1 a2; omega)) ?_
  refine a_lstore_n X 1 d_Mo_weightOf_41 rfl (by decide) ?_
  refine a_iconst X (v := nI 0) d_Mo_weightOf_42 (by decide) ?_
  refine a_istore_n X 3 d_Mo_weightOf_43 rfl (by decide) ?_
  refine ab_sub [(0, .ref 204), (1, .long (lN (wac ms mp vd 0))), (3, .int (nI 0))] rfl ?_
  suffices LP : ∀ (mm p : Nat), p ≤ mp.1 → mp.1 - p < mm → ab_R E G m 6 0 0 44 [(0, .ref 204), (1, .long (lN (wac ms mp vd p))), (3, .int (nI p))] [] (hc r s w c b d k t ++ hm ms mk mp mw mc md mt me) from LP (mp.1 + 1) 0 (by omega) (by omega)
  intro mm
  induction mm with
  | zero => intro p h1 h2; exfalso; omega
  | succ mm ih =>
    intro p h1 h2
    have hE := wE_le vd mp.1 p
    have J191 : p < mp.1 → ab_R E G m 6 0 0 191 [(0, .ref 204), (1, .long (lN (wD ms vd mp.1 (wE vd mp.1 p) p (wC ms vd (wE vd mp.1 p) p (wB mp vd p (wac ms mp vd p * msh (vS ms).1 (mp.2.1 p) (vd p / 2))))))), (3, .int (nI p))] [] (hc r s w c b d k t ++ hm ms mk mp mw mc md mt me) := fun hp => by
      refine a_incN X d_Mo_weightOf_191 rfl (by decide) ?_
      refine a_goto X 44 d_Mo_weightOf_194 (by decide) ?_
      refine ab_sub [(0, .ref 204), (1, .long (lN (wac ms mp vd (p + 1)))), (3, .int (nI (p + 1)))] rfl ?_
      exact ih (p + 1) (by omega) (by omega)
    have J152 : p < mp.1 → ab_R E G m 6 0 0 152 [(0, .ref 204), (1, .long (lN (wC ms vd (wE vd mp.1 p) p (wB mp vd p (wac ms mp vd p * msh (vS ms).1 (mp.2.1 p) (vd p / 2)))))), (3, .int (nI p)), (4, .int (nI (vd p / 2))), (5, .int (nI (wE vd mp.1 p)))] [] (hc r s w c b d k t ++ hm ms mk mp mw mc md mt me) := fun hp => by
      have hv8 := (hv p (by omega)).2
      refine a_iload X d_Mo_weightOf_152 rfl ?_
      refine a_if_eqN X 191 (by omega) d_Mo_weightOf_154 (by decide) (fun c154 => ?_) (fun c154 => ?_)
      ·
        rw [show (wD ms vd mp.1 (wE vd mp.1 p) p (wC ms vd (wE vd mp.1 p) p (wB mp vd p (wac ms mp vd p * msh (vS ms).1 (mp.2.1 p) (vd p / 2))))) = (wC ms vd (wE vd mp.1 p) p (wB mp vd p (wac ms mp vd p * msh (vS ms).1 (mp.2.1 p) (vd p / 2)))) by unfold wD; rw [if_pos c154]] at J191
        exact ab_sub _ rfl (J191 hp)
      ·
        refine a_iload_n X 3 d_Mo_weightOf_157 rfl rfl ?_
        refine a_iconst X (v := nI 1) d_Mo_weightOf_158 (by decide) ?_
        refine a_iadd X d_Mo_weightOf_159 ?_
        refine ab_topi (nI_add _ _) ?_
        refine a_aload_n X 0 d_Mo_weightOf_160 rfl rfl ?_
        refine a_get X ff_Mo_82 d_Mo_weightOf_161 mq_203 rfl ?_
        refine a_icmp_geN X 191 (by omega) (by omega) d_Mo_weightOf_164 (by decide) (fun c164 => ?_) (fun c164 => ?_)
        ·
          rw [show (wD ms vd mp.1 (wE vd mp.1 p) p (wC ms vd (wE vd mp.1 p) p (wB mp vd p (wac ms mp vd p * msh (vS ms).1 (mp.2.1 p) (vd p / 2))))) = (wC ms vd (wE vd mp.1 p) p (wB mp vd p (wac ms mp vd p * msh (vS ms).1 (mp.2.1 p) (vd p / 2)))) by unfold wD; rw [if_neg (by omega), if_neg (by omega)]] at J191
          exact ab_sub _ rfl (J191 hp)
        ·
          refine a_lload_n X 1 d_Mo_weightOf_167 rfl rfl ?_
          refine a_aload_n X 0 d_Mo_weightOf_168 rfl rfl ?_
          refine a_get X ff_Mo_13 d_Mo_weightOf_169 mq_203 rfl ?_
          refine a_iconst X (v := nI 4) d_Mo_weightOf_172 (by decide) ?_
          refine a_iload X d_Mo_weightOf_173 rfl ?_
          refine a_imul X d_Mo_weightOf_175 ?_
          refine ab_topi (pk_mul _ _) ?_
          refine a_aload_n X 0 d_Mo_weightOf_176 rfl rfl ?_
          refine a_get X ff_Mo_28 d_Mo_weightOf_177 mq_203 rfl ?_
          refine a_iload_n X 3 d_Mo_weightOf_180 rfl rfl ?_
          refine a_iconst X (v := nI 1) d_Mo_weightOf_181 (by decide) ?_
          refine a_iadd X d_Mo_weightOf_182 ?_
          refine ab_topi (nI_add _ _) ?_
          refine a_iald X d_Mo_weightOf_183 mq_210 rfl (ab_ix_nI (by omega) (by decide)) ?_
          refine ab_topi (hv (p + 1) (by omega)).1 ?_
          have hv9 := (hv (p + 1) (by omega)).2
          refine a_iconst X (v := nI 2) d_Mo_weightOf_184 (by decide) ?_
          refine a_idiv X d_Mo_weightOf_185 (by decide) ?_
          refine ab_topi (pk_div (by omega) (by omega) (by omega)) ?_
          refine a_iadd X d_Mo_weightOf_186 ?_
          refine ab_topi (nI_add _ _) ?_
          refine a_iald X d_Mo_weightOf_187 mq_205 rfl (ab_ix_nI (by omega) (by decide)) ?_
          refine a_i2l X d_Mo_weightOf_188 ?_
          refine ab_topl (nI_l (by have := hm4 (4 * (vd p / 2) + vd (p + 1) / 2); omega)) ?_
          refine a_lmul X d_Mo_weightOf_189 ?_
          refine ab_topl (lN_mul _ _) ?_
          rw [show (wD ms vd mp.1 (wE vd mp.1 p) p (wC ms vd (wE vd mp.1 p) p (wB mp vd p (wac ms mp vd p * msh (vS ms).1 (mp.2.1 p) (vd p / 2))))) = (wC ms vd (wE vd mp.1 p) p (wB mp vd p (wac ms mp vd p * msh (vS ms).1 (mp.2.1 p) (vd p / 2)))) * ms.2.2 (4 * (vd p / 2) + vd (p + 1) / 2) by unfold wD; rw [if_neg (by omega), if_pos (by omega)]] at J191
          refine a_lstore_n X 1 d_Mo_weightOf_190 rfl (by decide) ?_
          exact ab_sub _ rfl (J191 hp)
    have J125 : p < mp.1 → ab_R E G m 6 0 0 125 [(0, .ref 204), (1, .long (lN (wB mp vd p (wac ms mp vd p * msh (vS ms).1 (mp.2.1 p) (vd p / 2))))), (3, .int (nI p)), (4, .int (nI (vd p / 2))), (5, .int (nI (wE vd mp.1 p)))] [] (hc r s w c b d k t ++ hm ms mk mp mw mc md mt me) := fun hp => by
      have hv8 := (hv p (by omega)).2
      have hsl := sty_le vd p
      refine a_iload X d_Mo_weightOf_125 rfl ?_
      refine a_if_eqN X 152 (by omega) d_Mo_weightOf_127 (by decide) (fun c127 => ?_) (fun c127 => ?_)
      ·
        rw [show (wC ms vd (wE vd mp.1 p) p (wB mp vd p (wac ms mp vd p * msh (vS ms).1 (mp.2.1 p) (vd p / 2)))) = (wB mp vd p (wac ms mp vd p * msh (vS ms).1 (mp.2.1 p) (vd p / 2))) by unfold wC; rw [if_pos c127]] at J152
        exact ab_sub _ rfl (J152 hp)
      ·
        refine a_lload_n X 1 d_Mo_weightOf_130 rfl rfl ?_
        refine a_aload_n X 0 d_Mo_weightOf_131 rfl rfl ?_
        refine a_get X ff_Mo_7 d_Mo_weightOf_132 mq_203 rfl ?_
        refine a_bipush X (v := nI 9) d_Mo_weightOf_135 (by decide) ?_
        refine a_iload X d_Mo_weightOf_137 rfl ?_
        refine a_imul X d_Mo_weightOf_139 ?_
        refine ab_topi (pk_mul _ _) ?_
        refine a_iconst X (v := nI 1) d_Mo_weightOf_140 (by decide) ?_
        refine a_iadd X d_Mo_weightOf_141 ?_
        refine ab_topi (nI_add _ _) ?_
        refine a_aload_n X 0 d_Mo_weightOf_142 rfl rfl ?_
        refine a_iload_n X 3 d_Mo_weightOf_143 rfl rfl ?_
        refine a_callV X (a := 203) (As := [.int (nI _)]) mq_203 rfl fb_Mo_stay lk_Mo_101 im_Mo_stay se_Mo_stay (c_Mo_sta (vd := vd) (by omega) (fun i hi => hv i (by omega))) rfl rfl (Nat.le_of_ble_eq_true rfl) (by decide) (by decide) (Nat.le_refl _) (Nat.le_refl _) d_Mo_weightOf_144 (fun v h1 hp => ?_)
        obtain ⟨rfl, rfl⟩ := hp
        refine a_iadd X d_Mo_weightOf_147 ?_
        refine ab_topi (nI_add _ _) ?_
        refine a_iald X d_Mo_weightOf_148 mq_204 rfl (ab_ix_nI (by omega) (by decide)) ?_
        refine a_i2l X d_Mo_weightOf_149 ?_
        refine ab_topl (nI_l (by have := hw4 (9 * (vd p / 2) + 1 + sty vd p); omega)) ?_
        refine a_lmul X d_Mo_weightOf_150 ?_
        refine ab_topl (lN_mul _ _) ?_
        rw [show (wC ms vd (wE vd mp.1 p) p (wB mp vd p (wac ms mp vd p * msh (vS ms).1 (mp.2.1 p) (vd p / 2)))) = (wB mp vd p (wac ms mp vd p * msh (vS ms).1 (mp.2.1 p) (vd p / 2))) * ms.2.1 (9 * (vd p / 2) + 1 + sty vd p) by unfold wC; rw [if_neg (by omega)]] at J152
        refine a_lstore_n X 1 d_Mo_weightOf_151 rfl (by decide) ?_
        exact ab_sub _ rfl (J152 hp)
    have J95 : p < mp.1 → ab_R E G m 6 0 0 95 [(0, .ref 204), (1, .long (lN (wB mp vd p (wac ms mp vd p * msh (vS ms).1 (mp.2.1 p) (vd p / 2))))), (3, .int (nI p)), (4, .int (nI (vd p / 2)))] [] (hc r s w c b d k t ++ hm ms mk mp mw mc md mt me) := fun hp => by
      refine a_iload_n X 3 d_Mo_weightOf_95 rfl rfl ?_
      refine a_iconst X (v := nI 1) d_Mo_weightOf_96 (by decide) ?_
      refine a_iadd X d_Mo_weightOf_97 ?_
      refine ab_topi (nI_add _ _) ?_
      refine a_aload_n X 0 d_Mo_weightOf_98 rfl rfl ?_
      refine a_get X ff_Mo_82 d_Mo_weightOf_99 mq_203 rfl ?_
      refine a_icmp_eqN X 118 (by omega) (by omega) d_Mo_weightOf_102 (by decide) (fun c102 => ?_) (fun c102 => ?_)
      ·
        rw [show (wE vd mp.1 p) = 1 by unfold wE; rw [if_pos (Or.inl c102)]] at J125
        refine a_iconst X (v := nI 1) d_Mo_weightOf_118 (by decide) ?_
        refine a_goto X 123 d_Mo_weightOf_119 (by decide) ?_
        refine a_istore X d_Mo_weightOf_123 (by decide) ?_
        exact ab_sub _ rfl (J125 hp)
      ·
        refine a_aload_n X 0 d_Mo_weightOf_105 rfl rfl ?_
        refine a_get X ff_Mo_28 d_Mo_weightOf_106 mq_203 rfl ?_
        refine a_iload_n X 3 d_Mo_weightOf_109 rfl rfl ?_
        refine a_iconst X (v := nI 1) d_Mo_weightOf_110 (by decide) ?_
        refine a_iadd X d_Mo_weightOf_111 ?_
        refine ab_topi (nI_add _ _) ?_
        refine a_iald X d_Mo_weightOf_112 mq_210 rfl (ab_ix_nI (by omega) (by decide)) ?_
        refine ab_topi (hv (p + 1) (by omega)).1 ?_
        have hv8 := (hv (p + 1) (by omega)).2
        refine a_iconst X (v := nI 2) d_Mo_weightOf_113 (by decide) ?_
        refine a_irem X d_Mo_weightOf_114 (by decide) ?_
        refine ab_topi (pk_rem (by omega) (by omega) (by omega)) ?_
        refine a_if_neN X 122 (by omega) d_Mo_weightOf_115 (by decide) (fun c115 => ?_) (fun c115 => ?_)
        ·
          rw [show (wE vd mp.1 p) = 0 by unfold wE; rw [if_neg (by omega)]] at J125
          refine a_iconst X (v := nI 0) d_Mo_weightOf_122 (by decide) ?_
          refine a_istore X d_Mo_weightOf_123 (by decide) ?_
          exact ab_sub _ rfl (J125 hp)
        ·
          rw [show (wE vd mp.1 p) = 1 by unfold wE; rw [if_pos (Or.inr c115)]] at J125
          refine a_iconst X (v := nI 1) d_Mo_weightOf_118 (by decide) ?_
          refine a_goto X 123 d_Mo_weightOf_119 (by decide) ?_
          refine a_istore X d_Mo_weightOf_123 (by decide) ?_
          exact ab_sub _ rfl (J125 hp)
    refine a_iload_n X 3 d_Mo_weightOf_44 rfl rfl ?_
    refine a_aload_n X 0 d_Mo_weightOf_45 rfl rfl ?_
    refine a_get X ff_Mo_82 d_Mo_weightOf_46 mq_203 rfl ?_
    refine a_icmp_geN X 197 (by omega) (by omega) d_Mo_weightOf_49 (by decide) (fun c49 => ?_) (fun c49 => ?_)
    ·
      obtain rfl : p = mp.1 := by omega
      refine a_lload_n X 1 d_Mo_weightOf_197 rfl rfl ?_
      exact a_lret X d_Mo_weightOf_198 (Nat.le_refl _) (Nat.le_refl _) ⟨rfl, rfl⟩
    ·
      refine a_aload_n X 0 d_Mo_weightOf_52 rfl rfl ?_
      refine a_get X ff_Mo_28 d_Mo_weightOf_53 mq_203 rfl ?_
      refine a_iload_n X 3 d_Mo_weightOf_56 rfl rfl ?_
      refine a_iald X d_Mo_weightOf_57 mq_210 rfl (ab_ix_nI (by omega) (by decide)) ?_
      refine ab_topi (hv p (by omega)).1 ?_
      have hv8 := (hv p (by omega)).2
      refine a_iconst X (v := nI 2) d_Mo_weightOf_58 (by decide) ?_
      refine a_idiv X d_Mo_weightOf_59 (by decide) ?_
      refine ab_topi (pk_div (by omega) (by omega) (by omega)) ?_
      refine a_istore X d_Mo_weightOf_60 (by decide) ?_
      refine a_lload_n X 1 d_Mo_weightOf_62 rfl rfl ?_
      refine a_aload_n X 0 d_Mo_weightOf_63 rfl rfl ?_
      refine a_iload X d_Mo_weightOf_64 rfl ?_
      refine a_iload_n X 3 d_Mo_weightOf_66 rfl rfl ?_
      refine a_callV X (a := 203) (As := [.int (nI _), .int (nI _)]) mq_203 rfl fb_Mo_show lk_Mo_105 im_Mo_show se_Mo_show (c_Mo_sho (by omega) (by omega) (hsg p (by omega))) rfl rfl (Nat.le_of_ble_eq_true rfl) (by decide) (by decide) (Nat.le_refl _) (Nat.le_refl _) d_Mo_weightOf_67 (fun v h1 hp => ?_)
      obtain ⟨rfl, rfl⟩ := hp
      refine a_i2l X d_Mo_weightOf_70 ?_
      refine ab_topl (nI_l (by have := msh_le (f := (vS ms).1) (fun i j => hw4 (9 * i + j)) (mp.2.1 p) (vd p / 2); omega)) ?_
      refine a_lmul X d_Mo_weightOf_71 ?_
      refine ab_topl (lN_mul _ _) ?_
      refine a_lstore_n X 1 d_Mo_weightOf_72 rfl (by decide) ?_
      refine a_aload_n X 0 d_Mo_weightOf_73 rfl rfl ?_
      refine a_get X ff_Mo_25 d_Mo_weightOf_74 mq_203 rfl ?_
      refine a_iload_n X 3 d_Mo_weightOf_77 rfl rfl ?_
      refine a_iald X d_Mo_weightOf_78 mq_209 rfl (ab_ix_nI (by omega) (by decide)) ?_
      refine a_if_lt X 95 d_Mo_weightOf_79 (by decide) (fun c79 => ?_) (fun c79 => ?_)
      ·
        rw [show (wB mp vd p (wac ms mp vd p * msh (vS ms).1 (mp.2.1 p) (vd p / 2))) = (wac ms mp vd p * msh (vS ms).1 (mp.2.1 p) (vd p / 2)) by unfold wB; rw [if_neg (fun q => q.1 c79)]] at J95
        exact ab_sub _ rfl (J95 (by omega))
      ·
        refine a_aload_n X 0 d_Mo_weightOf_82 rfl rfl ?_
        refine a_get X ff_Mo_25 d_Mo_weightOf_83 mq_203 rfl ?_
        refine a_iload_n X 3 d_Mo_weightOf_86 rfl rfl ?_
        refine a_iald X d_Mo_weightOf_87 mq_209 rfl (ab_ix_nI (by omega) (by decide)) ?_
        refine a_iload X d_Mo_weightOf_88 rfl ?_
        refine a_icmp_eq X 95 d_Mo_weightOf_90 (by decide) (fun c90 => ?_) (fun c90 => ?_)
        ·
          rw [show (wB mp vd p (wac ms mp vd p * msh (vS ms).1 (mp.2.1 p) (vd p / 2))) = (wac ms mp vd p * msh (vS ms).1 (mp.2.1 p) (vd p / 2)) by unfold wB; rw [if_neg (fun q => q.2 c90)]] at J95
          exact ab_sub _ rfl (J95 (by omega))
        ·
          rw [show (wB mp vd p (wac ms mp vd p * msh (vS ms).1 (mp.2.1 p) (vd p / 2))) = 0 by unfold wB; rw [if_pos ⟨c79, c90⟩]] at J95
          refine a_lconst X (v := lN 0) d_Mo_weightOf_93 (by decide) ?_
          refine a_lstore_n X 1 d_Mo_weightOf_94 rfl (by decide) ?_
          exact ab_sub _ rfl (J95 (by omega))
