set_option maxHeartbeats 4000000 in
set_option maxRecDepth 20000 in
theorem c_Bw_list_k {E : ab_E} {l : Launch} {r : hR} {s : hS} {w c : hW} {b : hB} {d : hD} {k : hK} {t : hT} {Z : List ab_C} (hk : b.2 = 1) : ab_Con E l y_Bw_list b_Bw_list 3 (some (.object "HiddenRows$WayList")) 5 129 [.ref 92] (hc r s w c b d k t ++ Z) 0 0 (fun v h1 => v = some (.ref 94) ∧ h1 = hc r s w c b d k t ++ Z) := by
  refine ab_con (own := "HiddenRows$BestWays") (ini := false) (by decide) (fun h => by cases h) rfl (Nat.le_of_ble_eq_true rfl) ?_
  intro G m X
  show ab_R E G m 3 0 0 0 [(0, .ref 92)] [] (hc r s w c b d k t ++ Z)
  refine a_aload_n X 0 d_Bw_list_0 rfl rfl ?_
  refine a_get X ff_Bw_22 d_Bw_list_1 hq_91 rfl ?_
  refine a_if_neN X 68 (by omega) d_Bw_list_4 (by decide) (fun c4 => ?_) (fun c4 => ?_)
  ·
    refine a_aload_n X 0 d_Bw_list_68 rfl rfl ?_
    refine a_get X ff_Bw_18 d_Bw_list_69 hq_91 rfl ?_
    exact a_aret X (Or.inl ⟨_, rfl⟩) d_Bw_list_72 (Nat.le_refl _) (Nat.le_refl _) ⟨rfl, rfl⟩
  ·
    exfalso
    omega
set_option maxHeartbeats 4000000 in
set_option maxRecDepth 20000 in
theorem c_Bw_list_p {E : ab_E} {l : Launch} {r : hR} {s : hS} {w c : hW} {b : hB} {d : hD} {k : hK} {t : hT} {Z : List ab_C} {N : hW → Nat → Nat → (Nat → hL) → Prop} {Q : hW → (Nat → hL) → Prop} (hr : okR r) (hs : okS s) (hk : w.2.2.2.2.2 = 0 ∨ w.2.2.2.2.2 = 1 ∧ okW id r s w) (hb : b.2 = 0) (hn0 : 0 < r.2.2) (hN : ∀ (w1 : hW) (p st : Nat) (f : Nat → hL), okW id r s w1 → p < r.2.2 → st < s.2.2 → N w1 p st f → ∃ M : Nat → hL → Prop, M 0 ((f (p * 4 + st + 1)).1, (f (p * 4 + st + 1)).2.1, 0) ∧ (∀ e L, e < 3 → p + e + 1 ≤ r.2.2 → M e L → (p + (e + 1) = r.2.2 → ((segR id s w1.1 p (e + 1) st) * s.1 st 1) < 2 ^ 63 ∧ (∀ j, j < L.2.2 → L.1 j < 2 ^ 63) ∧ (∀ j, j < L.2.2 → L.2.1 j < 2 ^ 31) ∧ L.2.2 ≤ 10 ∧ ((((segR id s w1.1 p (e + 1) st) * s.1 st 1) = 0 ∨ ∃ p0, isPos L ((segR id s w1.1 p (e + 1) st) * s.1 st 1) (tolR st e) p0 ∧ 10 ≤ p0) → M (e + 1) L) ∧ ∀ p0 L1, isPos L ((segR id s w1.1 p (e + 1) st) * s.1 st 1) (tolR st e) p0 → p0 < 10 → okOff L L1 ((segR id s w1.1 p (e + 1) st) * s.1 st 1) (tolR st e) p0 → M (e + 1) L1) ∧ (p + (e + 1) < r.2.2 → ∃ J : Nat → hL → Prop, J 0 L ∧ (∀ y L, y < s.2.2 → J y L → ∃ I : Nat → hL → Prop, I 0 L ∧ (f ((p + (e + 1)) * 4 + y + 1)).2.2 ≤ 10 ∧ okStep (f ((p + (e + 1)) * 4 + y + 1)) ((segR id s w1.1 p (e + 1) st) * s.2.1 st y) (tolR st e * 2 ^ (3 * (r.2.2 - (p + (e + 1))))) I ∧ ∀ L1, I (f ((p + (e + 1)) * 4 + y + 1)).2.2 L1 → J (y + 1) L1) ∧ ∀ L1, J s.2.2 L1 → M (e + 1) L1)) ∧ ∀ L, M (min 3 (r.2.2 - p)) L → N w1 p (st + 1) (va_up f (p * 4 + st + 1) L)) (hdn : ∀ w1 p f, N w1 (p + 1) s.2.2 f → N w1 p 0 f) (hF : ∀ w1 f, okW id r s w1 → N w1 0 s.2.2 f → ∃ J : Nat → hL → Prop, J 0 ((f 0).1, (f 0).2.1, 0) ∧ (∀ y L, y < s.2.2 → J y L → ∃ I : Nat → hL → Prop, I 0 L ∧ (f (0 * 4 + y + 1)).2.2 ≤ 10 ∧ okStep (f (0 * 4 + y + 1)) (s.1 y 0) 0 I ∧ ∀ L1, I (f (0 * 4 + y + 1)).2.2 L1 → J (y + 1) L1) ∧ ∀ L, J s.2.2 L → Q w1 (va_up f 0 L)) (h0 : ∀ w1, okW id r s w1 → N w1 (r.2.2 - 1) 0 b.1) : ab_Con E l y_Bw_list b_Bw_list 3 (some (.object "HiddenRows$WayList")) 5 129 [.ref 92] (hc r s w c b d k t ++ Z) 0 0 (fun v h1 => ∃ w1 : hW, okW id r s w1 ∧ w1.2.2.2.2.2 = 1 ∧ (w.2.2.2.2.2 = 1 → w1 = w) ∧ ∃ f : Nat → hL, Q w1 f ∧ v = some (.ref 94) ∧ h1 = hc r s w1 c (f, 1) d k t ++ Z) := by
  have hn := hr.1
  have hq := hs.1
  refine ab_con (own := "HiddenRows$BestWays") (ini := false) (by decide) (fun h => by cases h) rfl (Nat.le_of_ble_eq_true rfl) ?_
  intro G m X
  show ab_R E G m 3 0 0 0 [(0, .ref 92)] [] (hc r s w c b d k t ++ Z)
  refine a_aload_n X 0 d_Bw_list_0 rfl rfl ?_
  refine a_get X ff_Bw_22 d_Bw_list_1 hq_91 rfl ?_
  refine a_if_neN X 68 (by omega) d_Bw_list_4 (by decide) (fun c4 => ?_) (fun c4 => ?_)
  ·
    exact absurd c4 (by omega)
  ·
    refine a_aload_n X 0 d_Bw_list_7 rfl rfl ?_
    refine a_iconst X (v := nI 1) d_Bw_list_8 (by decide) ?_
    refine a_put X ff_Bw_22 d_Bw_list_9 hq_91 (Nat.le_of_ble_eq_true rfl) rfl rfl ?_
    refine ab_hp hs_bk ?_
    refine a_aload_n X 0 d_Bw_list_12 rfl rfl ?_
    refine a_get X ff_Bw_34 d_Bw_list_13 hq_91 rfl ?_
    refine a_callV X (a := 15) (As := []) hq_15 rfl fb_Ws_refresh lk_Bw_38 im_Ws_refresh se_Ws_refresh (c_ref_w hr hs hk) rfl rfl (Nat.le_of_ble_eq_true rfl) (by decide) (by decide) (Nat.le_refl _) (Nat.le_refl _) d_Bw_list_16 (fun v h1 hp => ?_)
    obtain ⟨rfl, w1, hok, hkn, hsm, rfl⟩ := hp
    refine a_aload_n X 0 d_Bw_list_19 rfl rfl ?_
    refine a_get X ff_Bw_26 d_Bw_list_20 hq_91 rfl ?_
    refine a_get X ff_Bw_43 d_Bw_list_23 hq_1 rfl ?_
    refine a_iconst X (v := nI 1) d_Bw_list_26 (by decide) ?_
    refine a_isub X d_Bw_list_27 ?_
    refine ab_topi (pk_sub (by omega)) ?_
    refine a_istore_n X 1 d_Bw_list_28 rfl (by decide) ?_
    refine ab_sub [(0, .ref 92), (1, .int (nI (r.2.2 - 1)))] rfl ?_
    suffices LP : ∀ (p : Nat) (f : Nat → hL), p < r.2.2 → N w1 p 0 f → ab_R E G m 3 0 0 29 [(0, .ref 92), (1, .int (nI p))] [] (hc r s w1 c (f, 1) d k t ++ Z) from LP (r.2.2 - 1) b.1 (by omega) (h0 w1 hok)
    intro p
    induction p with
    | zero =>
      intro f hp hNv
      refine a_iload_n X 1 d_Bw_list_29 rfl rfl ?_
      refine a_if_ltN X 64 (by omega) d_Bw_list_30 (by decide) ?_
      refine a_iconst X (v := nI 0) d_Bw_list_33 (by decide) ?_
      refine a_istore_n X 2 d_Bw_list_34 rfl (by decide) ?_
      refine ab_sub [(0, .ref 92), (1, .int (nI 0)), (2, .int (nI 0))] rfl ?_
      suffices LQ : ∀ (mm st : Nat) (f : Nat → hL), st ≤ s.2.2 → s.2.2 - st < mm → N w1 0 st f → ab_R E G m 3 0 0 35 [(0, .ref 92), (1, .int (nI 0)), (2, .int (nI st))] [] (hc r s w1 c (f, 1) d k t ++ Z) from LQ (s.2.2 + 1) 0 f (by omega) (by omega) hNv
      clear hNv f
      intro mm
      induction mm with
      | zero => intro st f h1 h2 h3; exfalso; omega
      | succ mm ih2 =>
        intro st f h1 h2 hNv
        refine a_iload_n X 2 d_Bw_list_35 rfl rfl ?_
        refine a_aload_n X 0 d_Bw_list_36 rfl rfl ?_
        refine a_get X ff_Bw_30 d_Bw_list_37 hq_91 rfl ?_
        refine a_get X ff_Bw_49 d_Bw_list_40 hq_4 rfl ?_
        refine a_icmp_geN X 58 (by omega) (by omega) d_Bw_list_43 (by decide) (fun c43 => ?_) (fun c43 => ?_)
        ·
          obtain rfl : st = s.2.2 := by omega
          refine a_iinc X d_Bw_list_58 rfl (v := -1) (by decide) (by decide) ?_
          refine a_goto X 29 d_Bw_list_61 (by decide) ?_
          refine a_iload_n X 1 d_Bw_list_29 rfl rfl ?_
          refine a_if_lt X 64 d_Bw_list_30 (by decide) (fun c30 => ?_) (fun c30 => ?_)
          ·
            obtain ⟨J, j0, j1, j2⟩ := hF w1 f hok hNv
            refine a_aload_n X 0 d_Bw_list_64 rfl rfl ?_
            refine a_callV X (a := 91) (As := []) hq_91 rfl fb_Bw_listWhole lk_Bw_58 im_Bw_listWhole se_Bw_listWhole (c_Bw_lWh (b := (f, 1)) (w := w1) (J := J) hn hs j0 j1) rfl rfl (Nat.le_of_ble_eq_true rfl) (by decide) (by decide) (Nat.le_refl _) (Nat.le_refl _) d_Bw_list_65 (fun v h1 hpp => ?_)
            obtain ⟨L, hL, rfl, rfl⟩ := hpp
            have hJL : J s.2.2 L := by
              rcases hL with ⟨q, -⟩ | ⟨-, q⟩
              · omega
              · exact q
            refine a_aload_n X 0 d_Bw_list_68 rfl rfl ?_
            refine a_get X ff_Bw_18 d_Bw_list_69 hq_91 rfl ?_
            exact a_aret X (Or.inl ⟨_, rfl⟩) d_Bw_list_72 (Nat.le_refl _) (Nat.le_refl _) ⟨w1, hok, hkn, hsm, _, j2 L hJL, rfl, rfl⟩
          ·
            exact absurd (show (-1 : Int32) < 0 by decide) c30
        ·
          obtain ⟨M, m0, m1, m2⟩ := hN w1 0 st f hok hp c43 hNv
          refine a_aload_n X 0 d_Bw_list_46 rfl rfl ?_
          refine a_iload_n X 1 d_Bw_list_47 rfl rfl ?_
          refine a_iload_n X 2 d_Bw_list_48 rfl rfl ?_
          refine a_callV X (a := 91) (As := [.int (nI _), .int (nI _)]) hq_91 rfl fb_Bw_listEnds lk_Bw_54 im_Bw_listEnds se_Bw_listEnds (c_Bw_lEn (b := (f, 1)) (w := w1) (p := 0) (st := st) (M := M) hn hs hp (by omega) m0 m1) rfl rfl (Nat.le_of_ble_eq_true rfl) (by decide) (by decide) (Nat.le_refl _) (Nat.le_refl _) d_Bw_list_49 (fun v h1 hpp => ?_)
          obtain ⟨e, L, rfl, hML, rfl, rfl⟩ := hpp
          refine a_incN X d_Bw_list_52 rfl (by decide) ?_
          refine a_goto X 35 d_Bw_list_55 (by decide) ?_
          refine ab_sub [(0, .ref 92), (1, .int (nI 0)), (2, .int (nI (st + 1)))] rfl ?_
          exact ih2 (st + 1) _ (by omega) (by omega) (m2 L hML)
    | succ p ih =>
      intro f hp hNv
      refine a_iload_n X 1 d_Bw_list_29 rfl rfl ?_
      refine a_if_ltN X 64 (by omega) d_Bw_list_30 (by decide) ?_
      refine a_iconst X (v := nI 0) d_Bw_list_33 (by decide) ?_
      refine a_istore_n X 2 d_Bw_list_34 rfl (by decide) ?_
      refine ab_sub [(0, .ref 92), (1, .int (nI (p + 1))), (2, .int (nI 0))] rfl ?_
      suffices LQ : ∀ (mm st : Nat) (f : Nat → hL), st ≤ s.2.2 → s.2.2 - st < mm → N w1 (p + 1) st f → ab_R E G m 3 0 0 35 [(0, .ref 92), (1, .int (nI (p + 1))), (2, .int (nI st))] [] (hc r s w1 c (f, 1) d k t ++ Z) from LQ (s.2.2 + 1) 0 f (by omega) (by omega) hNv
      clear hNv f
      intro mm
      induction mm with
      | zero => intro st f h1 h2 h3; exfalso; omega
      | succ mm ih2 =>
        intro st f h1 h2 hNv
        refine a_iload_n X 2 d_Bw_list_35 rfl rfl ?_
        refine a_aload_n X 0 d_Bw_list_36 rfl rfl ?_
        refine a_get X ff_Bw_30 d_Bw_list_37 hq_91 rfl ?_
        refine a_get X ff_Bw_49 d_Bw_list_40 hq_4 rfl ?_
        refine a_icmp_geN X 58 (by omega) (by omega) d_Bw_list_43 (by decide) (fun c43 => ?_) (fun c43 => ?_)
        ·
          obtain rfl : st = s.2.2 := by omega
          refine a_decN X d_Bw_list_58 rfl (by decide) ?_
          refine a_goto X 29 d_Bw_list_61 (by decide) ?_
          refine ab_sub [(0, .ref 92), (1, .int (nI p))] rfl ?_
          exact ih f (by omega) (hdn w1 p f hNv)
        ·
          obtain ⟨M, m0, m1, m2⟩ := hN w1 (p + 1) st f hok hp c43 hNv
          refine a_aload_n X 0 d_Bw_list_46 rfl rfl ?_
          refine a_iload_n X 1 d_Bw_list_47 rfl rfl ?_
          refine a_iload_n X 2 d_Bw_list_48 rfl rfl ?_
          refine a_callV X (a := 91) (As := [.int (nI _), .int (nI _)]) hq_91 rfl fb_Bw_listEnds lk_Bw_54 im_Bw_listEnds se_Bw_listEnds (c_Bw_lEn (b := (f, 1)) (w := w1) (p := (p + 1)) (st := st) (M := M) hn hs hp (by omega) m0 m1) rfl rfl (Nat.le_of_ble_eq_true rfl) (by decide) (by decide) (Nat.le_refl _) (Nat.le_refl _) d_Bw_list_49 (fun v h1 hpp => ?_)
          obtain ⟨e, L, rfl, hML, rfl, rfl⟩ := hpp
          refine a_incN X d_Bw_list_52 rfl (by decide) ?_
          refine a_goto X 35 d_Bw_list_55 (by decide) ?_
          refine ab_sub [(0, .ref 92), (1, .int (nI (p + 1))), (2, .int (nI (st + 1)))] rfl ?_
          exact ih2 (st + 1) _ (by omega) (by omega) (m2 L hML)
