set_option maxHeartbeats 4000000 in
set_option maxRecDepth 20000 in
theorem c_bte {E : ab_E} {l : Launch} {r : hR} {s : hS} {w c : hW} {b : hB} {d : hD} {k : hK} {t : hT} {Z : List ab_C} {kd num : Nat} (hr : okR r) (hK : okK k) (hk : t.2.2.2.2.2.2.2 = 0 ∨ t.2.2.2.2.2.2.2 = 1 ∧ okT k r t.1 t.2.1 t.2.2.1) (hkd : kd < k.2.2) (hn0 : 0 < r.2.2) (hnum : num < 2 * r.2.2 - 1) (hbe : ∀ su ct be, okT k r su ct be → 0 < be kd (0 * 6 + (r.2.2 - 1))) : ab_Con E l y_Tt_bestTells b_Tt_bestTells 5 (some .int) 4 101 [.ref 181, .int (nI kd), .int (nI num)] (hc r s w c b d k t ++ Z) 0 0 (fun v h1 => ∃ su ct be : hG, okT k r su ct be ∧ (t.2.2.2.2.2.2.2 = 1 → su = t.1 ∧ ct = t.2.1 ∧ be = t.2.2.1) ∧ ∃ val, tellsAt k be num [(kd, 0, r.2.2 - 1)] val ∧ v = some (.int (nI val)) ∧ ∃ wk wp wt, h1 = hc r s w c b d k (su, ct, be, t.2.2.2.1, wk, wp, wt, 1) ++ Z) := by
  have hq4 := hK.1
  have hn6 := hr.1
  refine ab_con (own := "HiddenRows$TreeTables") (ini := false) (by decide) (fun h => by cases h) rfl (Nat.le_of_ble_eq_true rfl) ?_
  intro G m X
  show ab_R E G m 5 0 0 0 [(0, .ref 181), (1, .int (nI kd)), (2, .int (nI num))] [] (hc r s w c b d k t ++ Z)
  refine a_aload_n X 0 d_Tt_bestTells_0 rfl rfl ?_
  refine a_callV X (a := 180) (As := []) hq_180 rfl fb_Tt_refresh lk_Tt_48 im_Tt_refresh se_Tt_refresh (c_tre hr hK hk) rfl rfl (Nat.le_of_ble_eq_true rfl) (by decide) (by decide) (Nat.le_refl _) (Nat.le_refl _) d_Tt_bestTells_1 (fun v h1 hp => ?_)
  obtain ⟨rfl, su, ct, be, hok, hsm, rfl⟩ := hp
  have hn := hr.1
  have hpos := hbe su ct be hok
  refine a_aload_n X 0 d_Tt_bestTells_4 rfl rfl ?_
  refine a_iconst X (v := nI 0) d_Tt_bestTells_5 (by decide) ?_
  refine a_put X ff_Tt_32 d_Tt_bestTells_6 hq_180 (Nat.le_of_ble_eq_true rfl) rfl rfl ?_
  refine ab_hp hs_t ?_
  refine a_aload_n X 0 d_Tt_bestTells_9 rfl rfl ?_
  refine a_iload_n X 1 d_Tt_bestTells_10 rfl rfl ?_
  refine a_iconst X (v := nI 0) d_Tt_bestTells_11 (by decide) ?_
  refine a_aload_n X 0 d_Tt_bestTells_12 rfl rfl ?_
  refine a_get X ff_Tt_40 d_Tt_bestTells_13 hq_180 rfl ?_
  refine a_get X ff_Tt_51 d_Tt_bestTells_16 hq_1 rfl ?_
  refine a_iconst X (v := nI 1) d_Tt_bestTells_19 (by decide) ?_
  refine a_isub X d_Tt_bestTells_20 ?_
  refine ab_topi (pk_sub (by omega)) ?_
  refine a_callS X (As := [.int (nI _), .int (nI _)]) fb_Tt_spanOf lk_Tt_56 sm_Tt_spanOf (c_Tt_spanOf) rfl rfl (Nat.le_of_ble_eq_true rfl) (by decide) (by decide) (Nat.le_refl _) (Nat.le_refl _) d_Tt_bestTells_21 (fun v h1 hp => ?_)
  obtain ⟨rfl, rfl⟩ := hp
  refine a_callV X (a := 180) (As := [.int (nI _), .int (nI _)]) hq_180 rfl fb_Tt_push lk_Tt_94 im_Tt_push se_Tt_push (c_pus (by show 0 ≤ 6; omega)) rfl rfl (Nat.le_of_ble_eq_true rfl) (by decide) (by decide) (Nat.le_refl _) (Nat.le_refl _) d_Tt_bestTells_24 (fun v h1 hp => ?_)
  obtain ⟨rfl, rfl⟩ := hp
  refine a_iconst X (v := -1) d_Tt_bestTells_27 (by decide) ?_
  refine a_istore_n X 3 d_Tt_bestTells_28 rfl (by decide) ?_
  refine a_iconst X (v := nI 0) d_Tt_bestTells_29 (by decide) ?_
  refine a_istore X d_Tt_bestTells_30 (by decide) ?_
  refine ab_sub [(0, .ref 181), (1, .int (nI kd)), (2, .int (nI num)), (3, .int (-1)), (4, .int (nI 0))] rfl ?_
  suffices LP : ∀ (mm i : Nat) (told : Int32) (S : List (Nat × Nat × Nat)) (wk wp : Nat → Nat), num - i < mm → i ≤ num → repS wk wp S → (∀ q, q ∈ S → okN k r be q) → szS S ≤ 6 → ndS S + i = 2 * r.2.2 - 1 → (∀ v, tellsAt k be (num - i) S v → tellsAt k be num [(kd, 0, r.2.2 - 1)] v) → ab_R E G m 5 0 0 32 [(0, .ref 181), (1, .int (nI kd)), (2, .int (nI num)), (3, .int told), (4, .int (nI i))] [] (hc r s w c b d k (su, ct, be, t.2.2.2.1, wk, wp, S.length, 1) ++ Z) from LP (num + 1) 0 (-1) [(kd, 0, r.2.2 - 1)] _ _ (by omega) (by omega) ⟨va_up_self _ _ _, va_up_self _ _ _, trivial⟩ (fun q hq => by rw [List.mem_singleton] at hq; subst hq; exact ⟨hkd, Nat.zero_le _, by show r.2.2 - 1 < r.2.2; omega, hpos⟩) (by show r.2.2 - 1 - 0 + 1 + 0 ≤ 6; omega) (by show 2 * (r.2.2 - 1 - 0) + 1 + 0 + 0 = _; omega) (fun v h => h)
  intro mm
  induction mm with
  | zero => intro i told S wk wp h1 h2 hS hN hz hc hT; exfalso; omega
  | succ mm ih =>
    intro i told S wk wp h1 h2 hS hN hz hc hT
    have hlen := len_sz S
    match S, hS, hN, hz, hc, hT, hlen with
    | [], hS, hN, hz, hc, hT, hlen =>
      exfalso
      have hc : 0 + i = 2 * r.2.2 - 1 := hc
      omega
    | (kk, a, e) :: S1, hS, hN, hz, hc, hT, hlen =>
      obtain ⟨hN1, hN2, hN3, hN4⟩ := hN (kk, a, e) List.mem_cons_self
      have hN1 : kk < k.2.2 := hN1
      have hN2 : a ≤ e := hN2
      have hN3 : e < r.2.2 := hN3
      have hN4 : 0 < be kk (a * 6 + e) := hN4
      have hNR : ∀ q, q ∈ S1 → okN k r be q := fun q hq => hN q (List.mem_cons_of_mem _ hq)
      have hz : e - a + 1 + szS S1 ≤ 6 := hz
      have hc : 2 * (e - a) + 1 + ndS S1 + i = 2 * r.2.2 - 1 := hc
      have hl1 := len_sz S1
      have hq := hK.1
      have hb0 : be kk (a * 6 + e) < 2 ^ 63 := Nat.lt_of_le_of_lt (hok kk a e hN1 hN2 hN3 trivial).2.2.2 (p64 (by omega))
      refine a_iload X d_Tt_bestTells_32 rfl ?_
      refine a_iload_n X 2 d_Tt_bestTells_34 rfl rfl ?_
      refine a_icmp_gtN X 84 (by omega) (by omega) d_Tt_bestTells_35 (by decide) (fun c35 => ?_) (fun c35 => ?_)
      ·
        exfalso
        omega
      ·
        refine a_aload_n X 0 d_Tt_bestTells_38 rfl rfl ?_
        refine a_get X ff_Tt_32 d_Tt_bestTells_39 hq_180 rfl ?_
        refine a_if_leN X 84 (show S1.length + 1 < 2 ^ 31 by have hl : S1.length + 1 ≤ szS ((kk, a, e) :: S1) := hlen; omega) d_Tt_bestTells_42 (by decide) (fun c42 => ?_) (fun c42 => ?_)
        ·
          exact absurd (show S1.length + 1 = 0 from c42) (by omega)
        ·
          refine a_aload_n X 0 d_Tt_bestTells_45 rfl rfl ?_
          refine a_dup X d_Tt_bestTells_46 rfl ?_
          refine a_get X ff_Tt_32 d_Tt_bestTells_47 hq_180 rfl ?_
          refine a_iconst X (v := nI 1) d_Tt_bestTells_50 (by decide) ?_
          refine a_isub X d_Tt_bestTells_51 ?_
          refine ab_topi (pk_sub (a := S1.length + 1) (b := 1) (by omega)) ?_
          refine ab_topi (congrArg nI (show S1.length + 1 - 1 = S1.length by omega)) ?_
          refine a_put X ff_Tt_32 d_Tt_bestTells_52 hq_180 (Nat.le_of_ble_eq_true rfl) rfl rfl ?_
          refine ab_hp hs_t ?_
          refine a_aload_n X 0 d_Tt_bestTells_55 rfl rfl ?_
          refine a_aload_n X 0 d_Tt_bestTells_56 rfl rfl ?_
          refine a_get X ff_Tt_25 d_Tt_bestTells_57 hq_180 rfl ?_
          refine a_aload_n X 0 d_Tt_bestTells_60 rfl rfl ?_
          refine a_get X ff_Tt_32 d_Tt_bestTells_61 hq_180 rfl ?_
          refine a_iald X d_Tt_bestTells_64 hq_201 rfl (ab_ix_nI (show S1.length < 7 by omega) (by decide)) ?_
          refine ab_topi (congrArg nI (show wk S1.length = kk from hS.1)) ?_
          refine a_aload_n X 0 d_Tt_bestTells_65 rfl rfl ?_
          refine a_get X ff_Tt_29 d_Tt_bestTells_66 hq_180 rfl ?_
          refine a_aload_n X 0 d_Tt_bestTells_69 rfl rfl ?_
          refine a_get X ff_Tt_32 d_Tt_bestTells_70 hq_180 rfl ?_
          refine a_iald X d_Tt_bestTells_73 hq_202 rfl (ab_ix_nI (show S1.length < 7 by omega) (by decide)) ?_
          refine ab_topi (congrArg nI (show wp S1.length = a * 6 + e from hS.2.1)) ?_
          refine a_callV X (a := 180) (As := [.int (nI _), .int (nI _)]) hq_180 rfl fb_Tt_tellNode lk_Tt_98 im_Tt_tellNode se_Tt_tellNode (c_tno (i := a) (j := e) hK.1 (by omega) hN2 (by omega) (by show S1.length ≤ 5; omega) hK.2.1 hb0 (fun y u v hy hu hv => Nat.lt_of_le_of_lt (invT_bb hok hK hr.1 hN2 hN3 (fun _ _ _ _ _ _ _ => trivial) y u v hy hu hv) (p64 (by omega)))) rfl rfl (Nat.le_of_ble_eq_true rfl) (by decide) (by decide) (Nat.le_refl _) (Nat.le_refl _) d_Tt_bestTells_74 (fun v h1 hp => ?_)
          rcases hp with ⟨ee, x, y, he, hx, hy, hxy, hfst, rfl, rfl⟩ | ⟨hno, rfl, rfl⟩
          ·
            have hpk : isPick k be kk a e ee x y := ⟨he, hx, hy, hxy, hfst⟩
            obtain ⟨p1, p2⟩ := pick_parts hpk hN4
            have hst : tellStep k be ((kk, a, e) :: S1) (100 * (a + 1 + ee) + 10 * x + y) ((x, a, a + ee) :: (y, a + 1 + ee, e) :: S1) := Or.inr ⟨by omega, ee, x, y, hpk, rfl, rfl⟩
            refine a_istore_n X 3 d_Tt_bestTells_77 rfl (by decide) ?_
            refine a_incN X d_Tt_bestTells_78 rfl (by decide) ?_
            refine a_goto X 32 d_Tt_bestTells_81 (by decide) ?_
            by_cases hlast : i = num
            · subst hlast
              refine a_iload X d_Tt_bestTells_32 rfl ?_
              refine a_iload_n X 2 d_Tt_bestTells_34 rfl rfl ?_
              refine a_icmp_gtN X 84 (by omega) (by omega) d_Tt_bestTells_35 (by decide) (fun c35 => ?_) (fun c35 => ?_)
              ·
                refine a_iload_n X 3 d_Tt_bestTells_84 rfl rfl ?_
                exact a_iret X d_Tt_bestTells_85 (Nat.le_refl _) (Nat.le_refl _) ⟨su, ct, be, hok, hsm, (100 * (a + 1 + ee) + 10 * x + y), hT (100 * (a + 1 + ee) + 10 * x + y) (by rw [Nat.sub_self]; exact ⟨_, hst⟩), rfl, _, _, _, rfl⟩
              ·
                exfalso
                omega
            · refine ab_sub [(0, .ref 181), (1, .int (nI kd)), (2, .int (nI num)), (3, .int (nI (100 * (a + 1 + ee) + 10 * x + y))), (4, .int (nI (i + 1)))] rfl ?_
              exact ih (i + 1) _ ((x, a, a + ee) :: (y, a + 1 + ee, e) :: S1) _ _ (by omega) (by omega) ⟨va_up_self _ _ _, va_up_self _ _ _, (va_up_ne _ _ (by show S1.length ≠ S1.length + 1; omega)).trans (va_up_self _ _ _), (va_up_ne _ _ (by show S1.length ≠ S1.length + 1; omega)).trans (va_up_self _ _ _), repS_up (by show S1.length ≤ S1.length + 1; omega) (repS_up (Nat.le_refl S1.length) hS.2.2)⟩ (fun q hq => by
                rcases List.mem_cons.mp hq with rfl | hq
                · exact ⟨hx, by show a ≤ a + ee; omega, by show a + ee < r.2.2; omega, p1⟩
                · rcases List.mem_cons.mp hq with rfl | hq
                  · exact ⟨hy, by show a + 1 + ee ≤ e; omega, hN3, p2⟩
                  · exact hNR q hq) (by show a + ee - a + 1 + (e - (a + 1 + ee) + 1 + szS S1) ≤ 6; omega) (by show 2 * (a + ee - a) + 1 + (2 * (e - (a + 1 + ee)) + 1 + ndS S1) + (i + 1) = _; omega) (fun v hv => hT v (by rw [show num - i = num - (i + 1) + 1 by omega]; exact ⟨_, _, hst, hv⟩))
          ·
            have hae : a = e := by
              rcases Nat.lt_or_ge a e with g | g
              · exact (pick_there hok (hN (kk, a, e) List.mem_cons_self) g hno).elim
              · omega
            have hst : tellStep k be ((kk, a, e) :: S1) 0 S1 := Or.inl ⟨hae, rfl, rfl⟩
            refine a_istore_n X 3 d_Tt_bestTells_77 rfl (by decide) ?_
            refine a_incN X d_Tt_bestTells_78 rfl (by decide) ?_
            refine a_goto X 32 d_Tt_bestTells_81 (by decide) ?_
            by_cases hlast : i = num
            · subst hlast
              refine a_iload X d_Tt_bestTells_32 rfl ?_
              refine a_iload_n X 2 d_Tt_bestTells_34 rfl rfl ?_
              refine a_icmp_gtN X 84 (by omega) (by omega) d_Tt_bestTells_35 (by decide) (fun c35 => ?_) (fun c35 => ?_)
              ·
                refine a_iload_n X 3 d_Tt_bestTells_84 rfl rfl ?_
                exact a_iret X d_Tt_bestTells_85 (Nat.le_refl _) (Nat.le_refl _) ⟨su, ct, be, hok, hsm, 0, hT 0 (by rw [Nat.sub_self]; exact ⟨_, hst⟩), rfl, _, _, _, rfl⟩
              ·
                exfalso
                omega
            · refine ab_sub [(0, .ref 181), (1, .int (nI kd)), (2, .int (nI num)), (3, .int (nI 0)), (4, .int (nI (i + 1)))] rfl ?_
              exact ih (i + 1) _ S1 _ _ (by omega) (by omega) hS.2.2 hNR (by omega) (by omega) (fun v hv => hT v (by rw [show num - i = num - (i + 1) + 1 by omega]; exact ⟨_, _, hst, hv⟩))
