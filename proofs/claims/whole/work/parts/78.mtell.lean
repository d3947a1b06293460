def repM (A B K : Nat → Int32) : List (Nat × Nat × Nat) → Prop
  | [] => True
  | (kd, i, j) :: R => A R.length = nI i ∧ B R.length = nI j ∧ K R.length = nI kd ∧ repM A B K R
theorem repM_congr {A B K A' B' K' : Nat → Int32} : ∀ {S : List (Nat × Nat × Nat)}, (∀ l, l < S.length → A' l = A l ∧ B' l = B l ∧ K' l = K l) → repM A B K S → repM A' B' K' S
  | [], _, _ => trivial
  | (kd, i, j) :: R, h, ⟨h1, h2, h3, h4⟩ => by
    have q := h R.length (Nat.lt_succ_self _)
    exact ⟨q.1.trans h1, q.2.1.trans h2, q.2.2.trans h3, repM_congr (fun l hl => h l (Nat.lt_succ_of_lt hl)) h4⟩
set_option maxHeartbeats 4000000 in
set_option maxRecDepth 20000 in
theorem c_Mo_treeAt_n {E : ab_E} {l : Launch} {r : hR} {s : hS} {w c : hW} {b : hB} {d : hD} {k : hK} {t : hT} {ms mk : hA} {mp : hP} {mw : Nat → Int32} {mc : hC} {md : Nat × (Nat → Int32)} {mt : hF} {me : hE} {a e : Int32} (ha : a < 0 ∨ nI mk.1 ≤ a) : ab_Con E l y_Mo_treeAt b_Mo_treeAt 11 (some .int) 4 105 [.ref 204, .int a, .int e] (hc r s w c b d k t ++ hm ms mk mp mw mc md mt me) 0 0 (fun v h1 => v = some (.int (-1)) ∧ h1 = hc r s w c b d k t ++ hm ms mk mp mw mc md mt me) := by
  refine ab_con (own := "HiddenRowsModel") (ini := false) (by decide) (fun h => by cases h) rfl (Nat.le_of_ble_eq_true rfl) ?_
  intro G m X
  show ab_R E G m 11 0 0 0 [(0, .ref 204), (1, .int a), (2, .int e)] [] (hc r s w c b d k t ++ hm ms mk mp mw mc md mt me)
  refine a_aload_n X 0 d_Mo_treeAt_0 rfl rfl ?_
  refine a_iload_n X 1 d_Mo_treeAt_1 rfl rfl ?_
  refine a_callV X (a := 203) (As := [.int _]) mq_203 rfl fb_Mo_trees lk_Mo_177 im_Mo_trees se_Mo_trees (c_Mo_trees_n ha) rfl rfl (Nat.le_of_ble_eq_true rfl) (by decide) (by decide) (Nat.le_refl _) (Nat.le_refl _) d_Mo_treeAt_2 (fun v h1 hp => ?_)
  obtain ⟨rfl, rfl⟩ := hp
  refine a_lstore_n X 3 d_Mo_treeAt_5 rfl (by decide) ?_
  refine a_lload_n X 3 d_Mo_treeAt_6 rfl rfl ?_
  refine a_lconst X (v := lN 0) d_Mo_treeAt_7 (by decide) ?_
  refine a_lcmp X d_Mo_treeAt_8 ?_
  refine ab_topi (show _ = (-1 : Int32) by decide) ?_
  refine a_if_ge X 14 d_Mo_treeAt_9 (by decide) (fun c8 => ?_) (fun c8 => ?_)
  ·
    exact absurd c8 (by decide)
  ·
    refine a_iconst X (v := -1) d_Mo_treeAt_12 (by decide) ?_
    exact a_iret X d_Mo_treeAt_13 (Nat.le_refl _) (Nat.le_refl _) ⟨rfl, rfl⟩
set_option maxHeartbeats 4000000 in
set_option maxRecDepth 20000 in
theorem c_Mo_treeAt_0 {E : ab_E} {l : Launch} {r : hR} {s : hS} {w c : hW} {b : hB} {d : hD} {k : hK} {t : hT} {ms mk : hA} {mp : hP} {mw : Nat → Int32} {mc : hC} {md : Nat × (Nat → Int32)} {mt : hF} {me : hE} {kd : Nat} {e : Int32} (hQ : okQ mk mp) (hkd : kd < mk.1) (hsb : ∀ mq : hF, okF mk mp mq → allT mp mq.1 kd < 2 ^ 63) (h0 : ∀ mq : hF, okF mk mp mq → allT mp mq.1 kd = 0) : ab_Con E l y_Mo_treeAt b_Mo_treeAt 11 (some .int) 4 105 [.ref 204, .int (nI kd), .int e] (hc r s w c b d k t ++ hm ms mk mp mw mc md mt me) 0 0 (fun v h1 => ∃ mq : hF, okF mk mp mq ∧ v = some (.int (-3)) ∧ h1 = hc r s w c b d k t ++ hm ms mk mp mw mc md mq me) := by
  have hn := hQ.1
  have hk4 := hQ.2.1
  refine ab_con (own := "HiddenRowsModel") (ini := false) (by decide) (fun h => by cases h) rfl (Nat.le_of_ble_eq_true rfl) ?_
  intro G m X
  show ab_R E G m 11 0 0 0 [(0, .ref 204), (1, .int (nI kd)), (2, .int e)] [] (hc r s w c b d k t ++ hm ms mk mp mw mc md mt me)
  refine a_aload_n X 0 d_Mo_treeAt_0 rfl rfl ?_
  refine a_iload_n X 1 d_Mo_treeAt_1 rfl rfl ?_
  refine a_callV X (a := 203) (As := [.int (nI _)]) mq_203 rfl fb_Mo_trees lk_Mo_177 im_Mo_trees se_Mo_trees (c_Mo_trees_ok hQ hkd) rfl rfl (Nat.le_of_ble_eq_true rfl) (by decide) (by decide) (Nat.le_refl _) (Nat.le_refl _) d_Mo_treeAt_2 (fun v h1 hp => ?_)
  obtain ⟨mq, hmq, rfl, rfl⟩ := hp
  have hsb1 := hsb mq hmq
  refine a_lstore_n X 3 d_Mo_treeAt_5 rfl (by decide) ?_
  refine a_lload_n X 3 d_Mo_treeAt_6 rfl rfl ?_
  refine a_lconst X (v := lN 0) d_Mo_treeAt_7 (by decide) ?_
  refine a_lc_ge X 14 hsb1 (by omega) d_Mo_treeAt_8 d_Mo_treeAt_9 (by decide) (fun c8 => ?_) (fun c8 => ?_)
  ·
    refine a_lload_n X 3 d_Mo_treeAt_14 rfl rfl ?_
    refine a_lconst X (v := lN 0) d_Mo_treeAt_15 (by decide) ?_
    refine a_lc_ne X 23 hsb1 (by omega) d_Mo_treeAt_16 d_Mo_treeAt_17 (by decide) (fun c16 => ?_) (fun c16 => ?_)
    ·
      exact absurd (h0 mq hmq) c16
    ·
      refine a_bipush X (v := -3) d_Mo_treeAt_20 (by decide) ?_
      exact a_iret X d_Mo_treeAt_22 (Nat.le_refl _) (Nat.le_refl _) ⟨mq, hmq, rfl, rfl⟩
  ·
    exact absurd c8 (by omega)
set_option maxHeartbeats 4000000 in
set_option maxRecDepth 20000 in
theorem c_Mo_treeAt_x {E : ab_E} {l : Launch} {r : hR} {s : hS} {w c : hW} {b : hB} {d : hD} {k : hK} {t : hT} {ms mk : hA} {mp : hP} {mw : Nat → Int32} {mc : hC} {md : Nat × (Nat → Int32)} {mt : hF} {me : hE} {kd : Nat} {e : Int32} (hQ : okQ mk mp) (hkd : kd < mk.1) (hsb : ∀ mq : hF, okF mk mp mq → allT mp mq.1 kd < 2 ^ 63) (h0 : ∀ mq : hF, okF mk mp mq → 0 < allT mp mq.1 kd) (hn0 : 0 < mp.1) (he : e < 0 ∨ nI (2 * mp.1 - 1) ≤ e) : ab_Con E l y_Mo_treeAt b_Mo_treeAt 11 (some .int) 4 105 [.ref 204, .int (nI kd), .int e] (hc r s w c b d k t ++ hm ms mk mp mw mc md mt me) 0 0 (fun v h1 => ∃ mq : hF, okF mk mp mq ∧ v = some (.int (-1)) ∧ h1 = hc r s w c b d k t ++ hm ms mk mp mw mc md mq me) := by
  have hn := hQ.1
  have hk4 := hQ.2.1
  refine ab_con (own := "HiddenRowsModel") (ini := false) (by decide) (fun h => by cases h) rfl (Nat.le_of_ble_eq_true rfl) ?_
  intro G m X
  show ab_R E G m 11 0 0 0 [(0, .ref 204), (1, .int (nI kd)), (2, .int e)] [] (hc r s w c b d k t ++ hm ms mk mp mw mc md mt me)
  refine a_aload_n X 0 d_Mo_treeAt_0 rfl rfl ?_
  refine a_iload_n X 1 d_Mo_treeAt_1 rfl rfl ?_
  refine a_callV X (a := 203) (As := [.int (nI _)]) mq_203 rfl fb_Mo_trees lk_Mo_177 im_Mo_trees se_Mo_trees (c_Mo_trees_ok hQ hkd) rfl rfl (Nat.le_of_ble_eq_true rfl) (by decide) (by decide) (Nat.le_refl _) (Nat.le_refl _) d_Mo_treeAt_2 (fun v h1 hp => ?_)
  obtain ⟨mq, hmq, rfl, rfl⟩ := hp
  have hsb1 := hsb mq hmq
  have hpo := h0 mq hmq
  refine a_lstore_n X 3 d_Mo_treeAt_5 rfl (by decide) ?_
  refine a_lload_n X 3 d_Mo_treeAt_6 rfl rfl ?_
  refine a_lconst X (v := lN 0) d_Mo_treeAt_7 (by decide) ?_
  refine a_lc_ge X 14 hsb1 (by omega) d_Mo_treeAt_8 d_Mo_treeAt_9 (by decide) (fun c8 => ?_) (fun c8 => ?_)
  ·
    refine a_lload_n X 3 d_Mo_treeAt_14 rfl rfl ?_
    refine a_lconst X (v := lN 0) d_Mo_treeAt_15 (by decide) ?_
    refine a_lc_ne X 23 hsb1 (by omega) d_Mo_treeAt_16 d_Mo_treeAt_17 (by decide) (fun c16 => ?_) (fun c16 => ?_)
    ·
      refine a_iload_n X 2 d_Mo_treeAt_23 rfl rfl ?_
      refine a_if_lt X 39 d_Mo_treeAt_24 (by decide) (fun c24 => ?_) (fun c24 => ?_)
      ·
        refine a_iconst X (v := -1) d_Mo_treeAt_39 (by decide) ?_
        exact a_iret X d_Mo_treeAt_40 (Nat.le_refl _) (Nat.le_refl _) ⟨mq, hmq, rfl, rfl⟩
      ·
        refine a_iload_n X 2 d_Mo_treeAt_27 rfl rfl ?_
        refine a_iconst X (v := nI 2) d_Mo_treeAt_28 (by decide) ?_
        refine a_aload_n X 0 d_Mo_treeAt_29 rfl rfl ?_
        refine a_get X ff_Mo_82 d_Mo_treeAt_30 mq_203 rfl ?_
        refine a_imul X d_Mo_treeAt_33 ?_
        refine ab_topi (pk_mul _ _) ?_
        refine a_iconst X (v := nI 2) d_Mo_treeAt_34 (by decide) ?_
        refine a_isub X d_Mo_treeAt_35 ?_
        refine ab_topi (pk_sub (by omega)) ?_
        refine a_icmp_le X 41 d_Mo_treeAt_36 (by decide) (fun c36 => ?_) (fun c36 => ?_)
        ·
          exfalso
          rcases he with q | q
          · exact c24 q
          · exact absurd ((nI_leI (by omega) (by omega)).mp (Int32.le_trans q c36)) (by omega)
        ·
          refine a_iconst X (v := -1) d_Mo_treeAt_39 (by decide) ?_
          exact a_iret X d_Mo_treeAt_40 (Nat.le_refl _) (Nat.le_refl _) ⟨mq, hmq, rfl, rfl⟩
    ·
      exact absurd c16 (by omega)
  ·
    exact absurd c8 (by omega)
set_option maxHeartbeats 4000000 in
set_option maxRecDepth 20000 in
theorem c_Mo_treeAt_ok {E : ab_E} {l : Launch} {r : hR} {s : hS} {w c : hW} {b : hB} {d : hD} {k : hK} {t : hT} {ms mk : hA} {mp : hP} {mw : Nat → Int32} {mc : hC} {md : Nat × (Nat → Int32)} {mt : hF} {me : hE} {kd num : Nat} (hQ : okQ mk mp) (hkd : kd < mk.1) (hsb : ∀ mq : hF, okF mk mp mq → allT mp mq.1 kd < 2 ^ 63) (h0 : ∀ mq : hF, okF mk mp mq → 0 < allT mp mq.1 kd) (hn0 : 0 < mp.1) (hnum : num < 2 * mp.1 - 1) (hbe : ∀ mq : hF, okF mk mp mq → 0 < vT mq.2.2 kd (0 * 6 + (mp.1 - 1))) : ab_Con E l y_Mo_treeAt b_Mo_treeAt 11 (some .int) 4 105 [.ref 204, .int (nI kd), .int (nI num)] (hc r s w c b d k t ++ hm ms mk mp mw mc md mt me) 0 0 (fun v h1 => ∃ mq : hF, okF mk mp mq ∧ ∃ val, tellsAt (vK mk) (vT mq.2.2) num [(kd, 0, mp.1 - 1)] val ∧ v = some (.int (nI val)) ∧ ∃ me1 : hE, h1 = hc r s w c b d k t ++ hm ms mk mp mw mc md mq me1) := by
  have hn := hQ.1
  have hk4 := hQ.2.1
  have hK : okK (vK mk) := ⟨hk4, fun i j => hQ.2.2.1 _, fun i j => hQ.2.2.2.1 _⟩
  refine ab_con (own := "HiddenRowsModel") (ini := false) (by decide) (fun h => by cases h) rfl (Nat.le_of_ble_eq_true rfl) ?_
  intro G m X
  show ab_R E G m 11 0 0 0 [(0, .ref 204), (1, .int (nI kd)), (2, .int (nI num))] [] (hc r s w c b d k t ++ hm ms mk mp mw mc md mt me)
  refine a_aload_n X 0 d_Mo_treeAt_0 rfl rfl ?_
  refine a_iload_n X 1 d_Mo_treeAt_1 rfl rfl ?_
  refine a_callV X (a := 203) (As := [.int (nI _)]) mq_203 rfl fb_Mo_trees lk_Mo_177 im_Mo_trees se_Mo_trees (c_Mo_trees_ok hQ hkd) rfl rfl (Nat.le_of_ble_eq_true rfl) (by decide) (by decide) (Nat.le_refl _) (Nat.le_refl _) d_Mo_treeAt_2 (fun v h1 hp => ?_)
  obtain ⟨mq, hmq, rfl, rfl⟩ := hp
  have hsb1 := hsb mq hmq
  have hpo := h0 mq hmq
  refine a_lstore_n X 3 d_Mo_treeAt_5 rfl (by decide) ?_
  refine a_lload_n X 3 d_Mo_treeAt_6 rfl rfl ?_
  refine a_lconst X (v := lN 0) d_Mo_treeAt_7 (by decide) ?_
  refine a_lc_ge X 14 hsb1 (by omega) d_Mo_treeAt_8 d_Mo_treeAt_9 (by decide) (fun c8 => ?_) (fun c8 => ?_)
  ·
    refine a_lload_n X 3 d_Mo_treeAt_14 rfl rfl ?_
    refine a_lconst X (v := lN 0) d_Mo_treeAt_15 (by decide) ?_
    refine a_lc_ne X 23 hsb1 (by omega) d_Mo_treeAt_16 d_Mo_treeAt_17 (by decide) (fun c16 => ?_) (fun c16 => ?_)
    ·
      refine a_iload_n X 2 d_Mo_treeAt_23 rfl rfl ?_
      refine a_if_ltN X 39 (by omega) d_Mo_treeAt_24 (by decide) ?_
      refine a_iload_n X 2 d_Mo_treeAt_27 rfl rfl ?_
      refine a_iconst X (v := nI 2) d_Mo_treeAt_28 (by decide) ?_
      refine a_aload_n X 0 d_Mo_treeAt_29 rfl rfl ?_
      refine a_get X ff_Mo_82 d_Mo_treeAt_30 mq_203 rfl ?_
      refine a_imul X d_Mo_treeAt_33 ?_
      refine ab_topi (pk_mul _ _) ?_
      refine a_iconst X (v := nI 2) d_Mo_treeAt_34 (by decide) ?_
      refine a_isub X d_Mo_treeAt_35 ?_
      refine ab_topi (pk_sub (by omega)) ?_
      refine a_icmp_leN X 41 (by omega) (by omega) d_Mo_treeAt_36 (by decide) (fun c36 => ?_) (fun c36 => ?_)
      ·
        refine a_iconst X (v := nI 1) d_Mo_treeAt_41 (by decide) ?_
        refine a_istore X d_Mo_treeAt_42 (by decide) ?_
        refine a_aload_n X 0 d_Mo_treeAt_44 rfl rfl ?_
        refine a_get X ff_Mo_59 d_Mo_treeAt_45 mq_203 rfl ?_
        refine a_iconst X (v := nI 0) d_Mo_treeAt_48 (by decide) ?_
        refine a_iconst X (v := nI 0) d_Mo_treeAt_49 (by decide) ?_
        refine a_iast X d_Mo_treeAt_50 mq_220 rfl (ab_ix_nI (by omega) (by decide)) ?_
        refine ab_hp ma_tellA ?_
        refine a_aload_n X 0 d_Mo_treeAt_51 rfl rfl ?_
        refine a_get X ff_Mo_62 d_Mo_treeAt_52 mq_203 rfl ?_
        refine a_iconst X (v := nI 0) d_Mo_treeAt_55 (by decide) ?_
        refine a_aload_n X 0 d_Mo_treeAt_56 rfl rfl ?_
        refine a_get X ff_Mo_82 d_Mo_treeAt_57 mq_203 rfl ?_
        refine a_iconst X (v := nI 1) d_Mo_treeAt_60 (by decide) ?_
        refine a_isub X d_Mo_treeAt_61 ?_
        refine ab_topi (pk_sub (by omega)) ?_
        refine a_iast X d_Mo_treeAt_62 mq_221 rfl (ab_ix_nI (by omega) (by decide)) ?_
        refine ab_hp ma_tellB ?_
        refine a_aload_n X 0 d_Mo_treeAt_63 rfl rfl ?_
        refine a_get X ff_Mo_65 d_Mo_treeAt_64 mq_203 rfl ?_
        refine a_iconst X (v := nI 0) d_Mo_treeAt_67 (by decide) ?_
        refine a_iload_n X 1 d_Mo_treeAt_68 rfl rfl ?_
        refine a_iast X d_Mo_treeAt_69 mq_222 rfl (ab_ix_nI (by omega) (by decide)) ?_
        refine ab_hp ma_tellK ?_
        refine a_iload_n X 2 d_Mo_treeAt_70 rfl rfl ?_
        refine a_istore X d_Mo_treeAt_71 (by decide) ?_
        refine ab_sub [(0, .ref 204), (5, .int (nI 1)), (6, .int (nI num))] rfl ?_
        suffices LP : ∀ (mm L : Nat) (S : List (Nat × Nat × Nat)) (me : hE), L < mm ∧ L ≤ num → L < ndS S → repM me.1 me.2.1 me.2.2 S → (∀ q, q ∈ S → okN (vK mk) (vR mp) (vT mq.2.2) q) → szS S ≤ 6 → (∀ v, tellsAt (vK mk) (vT mq.2.2) L S v → tellsAt (vK mk) (vT mq.2.2) num [(kd, 0, mp.1 - 1)] v) → ab_R E G m 11 0 0 73 [(0, .ref 204), (5, .int (nI S.length)), (6, .int (nI L))] [] (hc r s w c b d k t ++ hm ms mk mp mw mc md mq me) from LP (num + 1) num [(kd, 0, mp.1 - 1)] (upd me.1 0 (nI 0), upd me.2.1 0 (nI (mp.1 - 1)), upd me.2.2 0 (nI kd)) ⟨by omega, by omega⟩ (by show num < 2 * (mp.1 - 1 - 0) + 1 + 0; omega) ⟨pk_us (f := me.1) (k := 0), pk_us (f := me.2.1) (k := 0), pk_us (f := me.2.2) (k := 0), trivial⟩ (fun q hq => by rw [List.mem_singleton] at hq; subst hq; exact ⟨hkd, Nat.zero_le _, by show mp.1 - 1 < mp.1; omega, hbe mq hmq⟩) (by show mp.1 - 1 - 0 + 1 + 0 ≤ 6; omega) (fun v h => h)
        intro mm
        induction mm with
        | zero => intro L S me h1 h2 hS hN hz hT; exfalso; omega
        | succ mm ih =>
          intro L S me h1 h2 hS hN hz hT
          have hlen := len_sz S
          match S, h2, hS, hN, hz, hT, hlen with
          | [], h2, hS, hN, hz, hT, hlen =>
            exact absurd (show L < 0 from h2) (by omega)
          | (kk, a, e) :: S1, h2, hS, hN, hz, hT, hlen =>
            obtain ⟨hN1, hN2, hN3, hN4⟩ := hN (kk, a, e) List.mem_cons_self
            have hN1 : kk < mk.1 := hN1
            have hN2 : a ≤ e := hN2
            have hN3 : e < mp.1 := hN3
            have hN4 : 0 < (vT mq.2.2) kk (a * 6 + e) := hN4
            have hNR : ∀ q, q ∈ S1 → okN (vK mk) (vR mp) (vT mq.2.2) q := fun q hq => hN q (List.mem_cons_of_mem _ hq)
            have hz : e - a + 1 + szS S1 ≤ 6 := hz
            have h2 : L < 2 * (e - a) + 1 + ndS S1 := h2
            have hl1 := len_sz S1
            have hb0 : (vT mq.2.2) kk (a * 6 + e) < 2 ^ 63 := Nat.lt_of_le_of_lt (hmq kk a e hN1 hN2 hN3 trivial).2.2.2 (p64 (by omega))
            refine a_iload X d_Mo_treeAt_73 rfl ?_
            refine a_if_leN X 216 (show S1.length + 1 < 2 ^ 31 by omega) d_Mo_treeAt_75 (by decide) (fun c75 => ?_) (fun c75 => ?_)
            ·
              exact absurd (show S1.length + 1 = 0 from c75) (by omega)
            ·
              refine a_decN X (k := S1.length) d_Mo_treeAt_78 rfl (by decide) ?_
              refine a_aload_n X 0 d_Mo_treeAt_81 rfl rfl ?_
              refine a_get X ff_Mo_59 d_Mo_treeAt_82 mq_203 rfl ?_
              refine a_iload X d_Mo_treeAt_85 rfl ?_
              refine a_iald X d_Mo_treeAt_87 mq_220 rfl (ab_ix_nI (show S1.length < 12 by omega) (by decide)) ?_
              refine ab_topi hS.1 ?_
              refine a_istore X d_Mo_treeAt_88 (by decide) ?_
              refine a_aload_n X 0 d_Mo_treeAt_90 rfl rfl ?_
              refine a_get X ff_Mo_62 d_Mo_treeAt_91 mq_203 rfl ?_
              refine a_iload X d_Mo_treeAt_94 rfl ?_
              refine a_iald X d_Mo_treeAt_96 mq_221 rfl (ab_ix_nI (show S1.length < 12 by omega) (by decide)) ?_
              refine ab_topi hS.2.1 ?_
              refine a_istore X d_Mo_treeAt_97 (by decide) ?_
              refine a_aload_n X 0 d_Mo_treeAt_99 rfl rfl ?_
              refine a_iload X d_Mo_treeAt_100 rfl ?_
              refine a_iload X d_Mo_treeAt_102 rfl ?_
              refine a_aload_n X 0 d_Mo_treeAt_104 rfl rfl ?_
              refine a_get X ff_Mo_65 d_Mo_treeAt_105 mq_203 rfl ?_
              refine a_iload X d_Mo_treeAt_108 rfl ?_
              refine a_iald X d_Mo_treeAt_110 mq_222 rfl (ab_ix_nI (show S1.length < 12 by omega) (by decide)) ?_
              refine ab_topi hS.2.2.1 ?_
              refine a_callV X (a := 203) (As := [.int (nI _), .int (nI _), .int (nI _)]) mq_203 rfl fb_Mo_leastOf lk_Mo_181 im_Mo_leastOf se_Mo_leastOf (c_Mo_lea (a := a) (b1 := e) (kd := kk) hN2 (by omega) (by omega) hk4 hQ.2.2.1 hb0 (fun y u v hy hu hv => Nat.lt_of_le_of_lt (invT_bb hmq hK hn hN2 hN3 (fun _ _ _ _ _ _ _ => trivial) y u v hy hu hv) (p64 (by omega)))) rfl rfl (Nat.le_of_ble_eq_true rfl) (by decide) (by decide) (Nat.le_refl _) (Nat.le_refl _) d_Mo_treeAt_111 (fun v h1 hp => ?_)
              obtain ⟨hp, rfl⟩ := hp
              rcases hp with ⟨hae, rfl⟩ | ⟨hlt, ee, x, y, hpk, rfl⟩ | ⟨hlt, hno, rfl⟩
              ·
                have hst : tellStep (vK mk) (vT mq.2.2) ((kk, a, e) :: S1) 0 S1 := Or.inl ⟨hae, rfl, rfl⟩
                refine a_istore X d_Mo_treeAt_114 (by decide) ?_
                refine a_iload X d_Mo_treeAt_116 rfl ?_
                refine a_if_neN X 124 (by omega) d_Mo_treeAt_118 (by decide) (fun c118 => ?_) (fun c118 => ?_)
                ·
                  obtain ⟨L, rfl⟩ : ∃ L1, L = L1 + 1 := ⟨L - 1, by omega⟩
                  refine a_decN X d_Mo_treeAt_124 rfl (by decide) ?_
                  refine a_iload X d_Mo_treeAt_127 rfl ?_
                  refine a_if_leN X 213 (by omega) d_Mo_treeAt_129 (by decide) (fun c129 => ?_) (fun c129 => ?_)
                  ·
                    refine a_goto X 73 d_Mo_treeAt_213 (by decide) ?_
                    exact ab_sub _ rfl (ih L S1 me ⟨by omega, by omega⟩ (by omega) hS.2.2.2 hNR (by omega) (fun v h => hT v ⟨_, _, hst, h⟩))
                  ·
                    exact absurd c129 (by omega)
                ·
                  refine a_iload X d_Mo_treeAt_121 rfl ?_
                  exact a_iret X d_Mo_treeAt_123 (Nat.le_refl _) (Nat.le_refl _) ⟨mq, hmq, _, hT _ (by rw [c118]; exact ⟨_, hst⟩), rfl, me, rfl⟩
              ·
                have hx4 : x < mk.1 := hpk.2.1
                have hy4 : y < mk.1 := hpk.2.2.1
                have hee : ee < e - a := hpk.1
                obtain ⟨p1, p2⟩ := pick_parts hpk hN4
                have hst : tellStep (vK mk) (vT mq.2.2) ((kk, a, e) :: S1) (100 * (a + 1 + ee) + 10 * x + y) ((x, a, a + ee) :: (y, a + 1 + ee, e) :: S1) := Or.inr ⟨hlt, ee, x, y, hpk, rfl, rfl⟩
                refine a_istore X d_Mo_treeAt_114 (by decide) ?_
                refine a_iload X d_Mo_treeAt_116 rfl ?_
                refine a_if_neN X 124 (by omega) d_Mo_treeAt_118 (by decide) (fun c118 => ?_) (fun c118 => ?_)
                ·
                  obtain ⟨L, rfl⟩ : ∃ L1, L = L1 + 1 := ⟨L - 1, by omega⟩
                  refine a_decN X d_Mo_treeAt_124 rfl (by decide) ?_
                  refine a_iload X d_Mo_treeAt_127 rfl ?_
                  refine a_if_leN X 213 (by omega) d_Mo_treeAt_129 (by decide) (fun c129 => ?_) (fun c129 => ?_)
                  ·
                    exact absurd c129 (by omega)
                  ·
                    refine a_iload X d_Mo_treeAt_132 rfl ?_
                    refine a_bipush X (v := nI 100) d_Mo_treeAt_134 (by decide) ?_
                    refine a_idiv X d_Mo_treeAt_136 (by decide) ?_
                    refine ab_topi (pk_div (by omega) (by omega) (by omega)) ?_
                    refine ab_topi (congrArg nI (show (100 * (a + 1 + ee) + 10 * x + y) / 100 = a + 1 + ee by omega)) ?_
                    refine a_istore X d_Mo_treeAt_137 (by decide) ?_
                    refine a_aload_n X 0 d_Mo_treeAt_139 rfl rfl ?_
                    refine a_get X ff_Mo_59 d_Mo_treeAt_140 mq_203 rfl ?_
                    refine a_iload X d_Mo_treeAt_143 rfl ?_
                    refine a_iload X d_Mo_treeAt_145 rfl ?_
                    refine a_iast X d_Mo_treeAt_147 mq_220 rfl (ab_ix_nI (by omega) (by decide)) ?_
                    refine ab_hp ma_tellA ?_
                    refine a_aload_n X 0 d_Mo_treeAt_148 rfl rfl ?_
                    refine a_get X ff_Mo_62 d_Mo_treeAt_149 mq_203 rfl ?_
                    refine a_iload X d_Mo_treeAt_152 rfl ?_
                    refine a_iload X d_Mo_treeAt_154 rfl ?_
                    refine a_iast X d_Mo_treeAt_156 mq_221 rfl (ab_ix_nI (by omega) (by decide)) ?_
                    refine ab_hp ma_tellB ?_
                    refine a_aload_n X 0 d_Mo_treeAt_157 rfl rfl ?_
                    refine a_get X ff_Mo_65 d_Mo_treeAt_158 mq_203 rfl ?_
                    refine a_iload X d_Mo_treeAt_161 rfl ?_
                    refine a_iload X d_Mo_treeAt_163 rfl ?_
                    refine a_bipush X (v := nI 10) d_Mo_treeAt_165 (by decide) ?_
                    refine a_irem X d_Mo_treeAt_167 (by decide) ?_
                    refine ab_topi (pk_rem (by omega) (by omega) (by omega)) ?_
                    refine ab_topi (congrArg nI (show (100 * (a + 1 + ee) + 10 * x + y) % 10 = y by omega)) ?_
                    refine a_iast X d_Mo_treeAt_168 mq_222 rfl (ab_ix_nI (by omega) (by decide)) ?_
                    refine ab_hp ma_tellK ?_
                    refine a_aload_n X 0 d_Mo_treeAt_169 rfl rfl ?_
                    refine a_get X ff_Mo_59 d_Mo_treeAt_170 mq_203 rfl ?_
                    refine a_iload X d_Mo_treeAt_173 rfl ?_
                    refine a_iconst X (v := nI 1) d_Mo_treeAt_175 (by decide) ?_
                    refine a_iadd X d_Mo_treeAt_176 ?_
                    refine ab_topi (nI_add _ _) ?_
                    refine a_iload X d_Mo_treeAt_177 rfl ?_
                    refine a_iast X d_Mo_treeAt_179 mq_220 rfl (ab_ix_nI (by omega) (by decide)) ?_
                    refine ab_hp ma_tellA ?_
                    refine a_aload_n X 0 d_Mo_treeAt_180 rfl rfl ?_
                    refine a_get X ff_Mo_62 d_Mo_treeAt_181 mq_203 rfl ?_
                    refine a_iload X d_Mo_treeAt_184 rfl ?_
                    refine a_iconst X (v := nI 1) d_Mo_treeAt_186 (by decide) ?_
                    refine a_iadd X d_Mo_treeAt_187 ?_
                    refine ab_topi (nI_add _ _) ?_
                    refine a_iload X d_Mo_treeAt_188 rfl ?_
                    refine a_iconst X (v := nI 1) d_Mo_treeAt_190 (by decide) ?_
                    refine a_isub X d_Mo_treeAt_191 ?_
                    refine ab_topi (pk_sub (by omega)) ?_
                    refine ab_topi (congrArg nI (show a + 1 + ee - 1 = a + ee by omega)) ?_
                    refine a_iast X d_Mo_treeAt_192 mq_221 rfl (ab_ix_nI (by omega) (by decide)) ?_
                    refine ab_hp ma_tellB ?_
                    refine a_aload_n X 0 d_Mo_treeAt_193 rfl rfl ?_
                    refine a_get X ff_Mo_65 d_Mo_treeAt_194 mq_203 rfl ?_
                    refine a_iload X d_Mo_treeAt_197 rfl ?_
                    refine a_iconst X (v := nI 1) d_Mo_treeAt_199 (by decide) ?_
                    refine a_iadd X d_Mo_treeAt_200 ?_
                    refine ab_topi (nI_add _ _) ?_
                    refine a_iload X d_Mo_treeAt_201 rfl ?_
                    refine a_bipush X (v := nI 10) d_Mo_treeAt_203 (by decide) ?_
                    refine a_idiv X d_Mo_treeAt_205 (by decide) ?_
                    refine ab_topi (pk_div (by omega) (by omega) (by omega)) ?_
                    refine a_bipush X (v := nI 10) d_Mo_treeAt_206 (by decide) ?_
                    refine a_irem X d_Mo_treeAt_208 (by decide) ?_
                    refine ab_topi (pk_rem (by omega) (by omega) (by omega)) ?_
                    refine ab_topi (congrArg nI (show (100 * (a + 1 + ee) + 10 * x + y) / 10 % 10 = x by omega)) ?_
                    refine a_iast X d_Mo_treeAt_209 mq_222 rfl (ab_ix_nI (by omega) (by decide)) ?_
                    refine ab_hp ma_tellK ?_
                    refine a_iinc X d_Mo_treeAt_210 rfl (v := nI (S1.length + 2)) (by rw [show Int32.ofInt 2 = nI 2 by decide]; exact nI_add _ _) (by decide) ?_
                    refine a_goto X 73 d_Mo_treeAt_213 (by decide) ?_
                    refine ab_sub [(0, .ref 204), (5, .int (nI (S1.length + 2))), (6, .int (nI L))] rfl ?_
                    have hun : ∀ (f : Nat → Int32) (u v : Int32) (l : Nat), l < S1.length → upd (upd f S1.length u) (S1.length + 1) v l = f l := fun f u v l hl => by rw [pk_un (by omega), pk_un (by omega)]
                    refine ih L ((x, a, a + ee) :: (y, a + 1 + ee, e) :: S1) _ ⟨by omega, by omega⟩ ?_ ?_ ?_ ?_ (fun v h => hT v ⟨_, _, hst, h⟩)
                    · show L < 2 * (a + ee - a) + 1 + (2 * (e - (a + 1 + ee)) + 1 + ndS S1)
                      omega
                    · exact ⟨pk_us, pk_us, pk_us, (pk_un (by show S1.length ≠ S1.length + 1; omega)).trans pk_us, (pk_un (by show S1.length ≠ S1.length + 1; omega)).trans pk_us, (pk_un (by show S1.length ≠ S1.length + 1; omega)).trans pk_us, repM_congr (fun l hl => ⟨hun _ _ _ l hl, hun _ _ _ l hl, hun _ _ _ l hl⟩) hS.2.2.2⟩
                    · intro q hq
                      rcases List.mem_cons.mp hq with rfl | hq
                      · exact ⟨hx4, by show a ≤ a + ee; omega, by show a + ee < mp.1; omega, p1⟩
                      · rcases List.mem_cons.mp hq with rfl | hq
                        · exact ⟨hy4, by show a + 1 + ee ≤ e; omega, hN3, p2⟩
                        · exact hNR q hq
                    · show a + ee - a + 1 + (e - (a + 1 + ee) + 1 + szS S1) ≤ 6
                      omega
                ·
                  refine a_iload X d_Mo_treeAt_121 rfl ?_
                  exact a_iret X d_Mo_treeAt_123 (Nat.le_refl _) (Nat.le_refl _) ⟨mq, hmq, _, hT _ (by rw [c118]; exact ⟨_, hst⟩), rfl, me, rfl⟩
              · exact (pick_there hmq (hN (kk, a, e) List.mem_cons_self) hlt hno).elim
      ·
        exfalso
        omega
    ·
      exact absurd c16 (by omega)
  ·
    exact absurd c8 (by omega)
