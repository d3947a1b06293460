def vK (mk : hA) : hK := (fun a y => mk.2.1 (16 * a + y), fun a z => mk.2.2 (4 * a + z), mk.1)
def vS (ms : hA) : hS := (fun j z => ms.2.1 (9 * j + z), fun j z => ms.2.2 (4 * j + z), ms.1)
def vR (mp : hP) : hR := (mp.2.1, mp.2.2, mp.1)
def msh (f : hG) (x : Int32) (st : Nat) : Nat := if x = -1 then sumR (fun y => f st (5 + y)) 0 4 else f st (5 + x.toNatClampNeg)
def sty (v : Nat → Nat) : Nat → Nat
  | 0 => 1
  | p + 1 => if v (p + 1) % 2 = 1 then sty v p + 1 else 1
def cbR (q : Nat) (v : Nat → Nat) (p x : Nat) : Nat := if x % 2 = 0 then (if x / 2 < q then 1 else 0) else if 0 < p ∧ v (p - 1) / 2 = x / 2 ∧ sty v (p - 1) < 3 then 1 else 0
theorem sum4 (g : Nat → Nat) : sumR g 0 4 = g 0 + g 1 + g 2 + g 3 := by
  show 0 + g (0 + 0) + g (0 + 1) + g (0 + 2) + g (0 + 3) = _
  simp only [Nat.zero_add]
theorem sty_pos (v : Nat → Nat) : ∀ p, 1 ≤ sty v p
  | 0 => Nat.le_refl _
  | p + 1 => by
    show 1 ≤ if v (p + 1) % 2 = 1 then sty v p + 1 else 1
    split <;> omega
theorem sty_le (v : Nat → Nat) : ∀ p, sty v p ≤ p + 1
  | 0 => Nat.le_refl _
  | p + 1 => by
    have h := sty_le v p
    show (if v (p + 1) % 2 = 1 then sty v p + 1 else 1) ≤ p + 2
    split <;> omega
set_option maxHeartbeats 4000000 in
set_option maxRecDepth 20000 in
theorem c_Mo_com {E : ab_E} {l : Launch} {Z : List ab_C} {a b : Nat} (ha : a < 2 ^ 63) (hb : b < 2 ^ 63) : ab_Con E l y_Mo_common b_Mo_common 10 (some .long) 0 0 [.long (lN a), .long (lN b)] (Z) 0 0 (fun v h1 => v = some (.long (lN (Nat.gcd a b))) ∧ h1 = Z) := by
  refine ab_con (own := "HiddenRowsModel") (ini := false) (by decide) (fun h => by cases h) rfl (Nat.le_of_ble_eq_true rfl) ?_
  intro G m X
  show ab_R E G m 10 0 0 0 [(0, .long (lN a)), (2, .long (lN b))] [] (Z)
  refine a_lload_n X 0 d_Mo_common_0 rfl rfl ?_
  refine a_lstore X d_Mo_common_1 (by decide) ?_
  refine a_lload_n X 2 d_Mo_common_3 rfl rfl ?_
  refine a_lstore X d_Mo_common_4 (by decide) ?_
  refine ab_sub [(0, .long (lN a)), (2, .long (lN b)), (4, .long (lN a)), (6, .long (lN b))] rfl ?_
  suffices LP : ∀ (mm x y : Nat), x < 2 ^ 63 → y < 2 ^ 63 → Nat.gcd x y = Nat.gcd a b → y < mm → ab_R E G m 10 0 0 6 [(0, .long (lN a)), (2, .long (lN b)), (4, .long (lN x)), (6, .long (lN y))] [] (Z) from LP (b + 1) a b ha hb rfl (by omega)
  intro mm
  induction mm with
  | zero => intro x y h1 h2 h3 h4; exfalso; omega
  | succ mm ih =>
    intro x y h1 h2 h3 h4
    refine a_lload X d_Mo_common_6 rfl ?_
    refine a_lconst X (v := lN 0) d_Mo_common_8 (by decide) ?_
    refine a_lc_eq X 31 (by omega) (by omega) d_Mo_common_9 d_Mo_common_10 (by decide) (fun c9 => ?_) (fun c9 => ?_)
    ·
      refine a_lload X d_Mo_common_31 rfl ?_
      exact a_lret X d_Mo_common_33 (Nat.le_refl _) (Nat.le_refl _) ⟨by rw [← h3, c9, Nat.gcd_zero_right], rfl⟩
    ·
      refine a_lload X d_Mo_common_13 rfl ?_
      refine a_lload X d_Mo_common_15 rfl ?_
      refine a_lrem X d_Mo_common_17 (fun q => c9 ((pk_lEQ h2 (by omega)).mp q)) ?_
      refine ab_topl (pk_lRem h1 (by omega) h2) ?_
      refine a_lstore X d_Mo_common_18 (by decide) ?_
      refine a_lload X d_Mo_common_20 rfl ?_
      refine a_lstore X d_Mo_common_22 (by decide) ?_
      refine a_lload X d_Mo_common_24 rfl ?_
      refine a_lstore X d_Mo_common_26 (by decide) ?_
      refine a_goto X 6 d_Mo_common_28 (by decide) ?_
      have hm : x % y < y := Nat.mod_lt _ (by omega)
      refine ab_sub [(0, .long (lN a)), (2, .long (lN b)), (4, .long (lN y)), (6, .long (lN (x % y)))] rfl ?_
      exact ih y (x % y) h2 (by omega) (by rw [← h3, Nat.gcd_comm x y, Nat.gcd_rec y x, Nat.gcd_comm]) (by omega)
set_option maxHeartbeats 4000000 in
set_option maxRecDepth 20000 in
theorem c_Mo_low {E : ab_E} {l : Launch} {Z : List ab_C} {a b pt : Nat} (ha : a < 2 ^ 63) (hb : b < 2 ^ 63) (h0 : 0 < b) (hpt : pt ≤ 1) : ab_Con E l y_Mo_lowest b_Mo_lowest 7 (some .long) 1 29 [.long (lN a), .long (lN b), .int (nI pt)] (Z) 0 0 (fun v h1 => v = some (.long (lowR a b pt)) ∧ h1 = Z) := by
  refine ab_con (own := "HiddenRowsModel") (ini := false) (by decide) (fun h => by cases h) rfl (Nat.le_of_ble_eq_true rfl) ?_
  intro G m X
  show ab_R E G m 7 0 0 0 [(0, .long (lN a)), (2, .long (lN b)), (4, .int (nI pt))] [] (Z)
  refine a_lload_n X 0 d_Mo_lowest_0 rfl rfl ?_
  refine a_lload_n X 2 d_Mo_lowest_1 rfl rfl ?_
  refine a_callS X (As := [.long (lN a), .long (lN b)]) fb_Mo_common lk_Mo_141 sm_Mo_common (c_Mo_com ha hb) rfl rfl (Nat.le_of_ble_eq_true rfl) (by decide) (by decide) (Nat.le_refl _) (Nat.le_refl _) d_Mo_lowest_2 (fun v h1 hp => ?_)
  obtain ⟨rfl, rfl⟩ := hp
  have hgp : 0 < Nat.gcd a b := Nat.gcd_pos_of_pos_right a (by omega)
  have hgl : Nat.gcd a b ≤ b := Nat.gcd_le_right a (by omega)
  refine a_lstore X d_Mo_lowest_5 (by decide) ?_
  refine a_iload X d_Mo_lowest_7 rfl ?_
  refine a_if_neN X 19 (by omega) d_Mo_lowest_9 (by decide) (fun c9 => ?_) (fun c9 => ?_)
  ·
    refine a_lload_n X 2 d_Mo_lowest_19 rfl rfl ?_
    refine a_lload X d_Mo_lowest_20 rfl ?_
    refine a_ldiv X d_Mo_lowest_22 (fun q => by have := (pk_lEQ (b := 0) (show Nat.gcd a b < 2 ^ 63 by omega) (by omega)).mp q; omega) ?_
    refine ab_topl (pk_lDiv hb hgp (by omega)) ?_
    exact a_lret X d_Mo_lowest_23 (Nat.le_refl _) (Nat.le_refl _) ⟨by unfold lowR; rw [if_neg (by omega)]; first | rw [if_pos (by omega)] | rw [if_neg (by omega)], rfl⟩
  ·
    refine a_lload_n X 0 d_Mo_lowest_12 rfl rfl ?_
    refine a_lload X d_Mo_lowest_13 rfl ?_
    refine a_ldiv X d_Mo_lowest_15 (fun q => by have := (pk_lEQ (b := 0) (show Nat.gcd a b < 2 ^ 63 by omega) (by omega)).mp q; omega) ?_
    refine ab_topl (pk_lDiv ha hgp (by omega)) ?_
    refine a_goto X 23 d_Mo_lowest_16 (by decide) ?_
    exact a_lret X d_Mo_lowest_23 (Nat.le_refl _) (Nat.le_refl _) ⟨by unfold lowR; rw [if_neg (by omega)]; first | rw [if_pos (by omega)] | rw [if_neg (by omega)], rfl⟩
set_option maxHeartbeats 4000000 in
set_option maxRecDepth 20000 in
theorem c_Mo_at {E : ab_E} {l : Launch} {Z : List ab_C} {i j e : Nat} : ab_Con E l y_Mo_at b_Mo_at 3 (some .int) 0 0 [.int (nI i), .int (nI j), .int (nI e)] (Z) 0 0 (fun v h1 => v = some (.int (nI (24 * i + 4 * j + e))) ∧ h1 = Z) := by
  refine ab_con (own := "HiddenRowsModel") (ini := false) (by decide) (fun h => by cases h) rfl (Nat.le_of_ble_eq_true rfl) ?_
  intro G m X
  show ab_R E G m 3 0 0 0 [(0, .int (nI i)), (1, .int (nI j)), (2, .int (nI e))] [] (Z)
  refine a_bipush X (v := nI 24) d_Mo_at_0 (by decide) ?_
  refine a_iload_n X 0 d_Mo_at_2 rfl rfl ?_
  refine a_imul X d_Mo_at_3 ?_
  refine ab_topi (pk_mul _ _) ?_
  refine a_iconst X (v := nI 4) d_Mo_at_4 (by decide) ?_
  refine a_iload_n X 1 d_Mo_at_5 rfl rfl ?_
  refine a_imul X d_Mo_at_6 ?_
  refine ab_topi (pk_mul _ _) ?_
  refine a_iadd X d_Mo_at_7 ?_
  refine ab_topi (nI_add _ _) ?_
  refine a_iload_n X 2 d_Mo_at_8 rfl rfl ?_
  refine a_iadd X d_Mo_at_9 ?_
  refine ab_topi (nI_add _ _) ?_
  exact a_iret X d_Mo_at_10 (Nat.le_refl _) (Nat.le_refl _) ⟨rfl, rfl⟩
set_option maxHeartbeats 4000000 in
set_option maxRecDepth 20000 in
theorem c_Mo_who {E : ab_E} {l : Launch} {r : hR} {s : hS} {w c : hW} {b : hB} {d : hD} {k : hK} {t : hT} {ms mk : hA} {mp : hP} {mw : Nat → Int32} {mc : hC} {md : Nat × (Nat → Int32)} {mt : hF} {me : hE} {e : Nat} (hn : 0 < mp.1) : ab_Con E l y_Mo_whole b_Mo_whole 2 (some .int) 1 22 [.ref 204, .int (nI e)] (hc r s w c b d k t ++ hm ms mk mp mw mc md mt me) 0 0 (fun v h1 => v = some (.int (nI (24 * 0 + 4 * (mp.1 - 1) + e))) ∧ h1 = hc r s w c b d k t ++ hm ms mk mp mw mc md mt me) := by
  refine ab_con (own := "HiddenRowsModel") (ini := false) (by decide) (fun h => by cases h) rfl (Nat.le_of_ble_eq_true rfl) ?_
  intro G m X
  show ab_R E G m 2 0 0 0 [(0, .ref 204), (1, .int (nI e))] [] (hc r s w c b d k t ++ hm ms mk mp mw mc md mt me)
  refine a_iconst X (v := nI 0) d_Mo_whole_0 (by decide) ?_
  refine a_aload_n X 0 d_Mo_whole_1 rfl rfl ?_
  refine a_get X ff_Mo_82 d_Mo_whole_2 mq_203 rfl ?_
  refine a_iconst X (v := nI 1) d_Mo_whole_5 (by decide) ?_
  refine a_isub X d_Mo_whole_6 ?_
  refine ab_topi (pk_sub (by omega)) ?_
  refine a_iload_n X 1 d_Mo_whole_7 rfl rfl ?_
  refine a_callS X (As := [.int (nI _), .int (nI _), .int (nI _)]) fb_Mo_at lk_Mo_163 sm_Mo_at (c_Mo_at) rfl rfl (Nat.le_of_ble_eq_true rfl) (by decide) (by decide) (Nat.le_refl _) (Nat.le_refl _) d_Mo_whole_8 (fun v h1 hp => ?_)
  obtain ⟨rfl, rfl⟩ := hp
  exact a_iret X d_Mo_whole_11 (Nat.le_refl _) (Nat.le_refl _) ⟨rfl, rfl⟩
set_option maxHeartbeats 4000000 in
set_option maxRecDepth 20000 in
theorem c_Mo_lof_n {E : ab_E} {l : Launch} {r : hR} {s : hS} {w c : hW} {b : hB} {d : hD} {k : hK} {t : hT} {ms mk : hA} {mp : hP} {mw : Nat → Int32} {mc : hC} {md : Nat × (Nat → Int32)} {mt : hF} {me : hE} {kd p : Nat} (hkd : kd < 4) (hp : p < 6) (hle : ∀ i, mk.2.2 i ≤ 4) (hx : mp.2.1 p = -1) : ab_Con E l y_Mo_leafOf b_Mo_leafOf 5 (some .long) 0 0 [.ref 204, .int (nI kd), .int (nI p)] (hc r s w c b d k t ++ hm ms mk mp mw mc md mt me) 0 0 (fun v h1 => v = some (.long (lN (leaR (vK mk) kd (mp.2.1 p)))) ∧ h1 = hc r s w c b d k t ++ hm ms mk mp mw mc md mt me) := by
  have b0 := hle (4 * kd)
  have b1 := hle (4 * kd + 1)
  have b2 := hle (4 * kd + 2)
  have b3 := hle (4 * kd + 3)
  refine ab_con (own := "HiddenRowsModel") (ini := false) (by decide) (fun h => by cases h) rfl (Nat.le_of_ble_eq_true rfl) ?_
  intro G m X
  show ab_R E G m 5 0 0 0 [(0, .ref 204), (1, .int (nI kd)), (2, .int (nI p))] [] (hc r s w c b d k t ++ hm ms mk mp mw mc md mt me)
  refine a_aload_n X 0 d_Mo_leafOf_0 rfl rfl ?_
  refine a_get X ff_Mo_22 d_Mo_leafOf_1 mq_203 rfl ?_
  refine a_iload_n X 2 d_Mo_leafOf_4 rfl rfl ?_
  refine a_iald X d_Mo_leafOf_5 mq_208 rfl (ab_ix_nI (by omega) (by decide)) ?_
  refine ab_topi hx ?_
  refine a_istore_n X 3 d_Mo_leafOf_6 rfl (by decide) ?_
  refine a_iconst X (v := nI 4) d_Mo_leafOf_7 (by decide) ?_
  refine a_iload_n X 1 d_Mo_leafOf_8 rfl rfl ?_
  refine a_imul X d_Mo_leafOf_9 ?_
  refine ab_topi (pk_mul _ _) ?_
  refine a_istore X d_Mo_leafOf_10 (by decide) ?_
  refine a_iload_n X 3 d_Mo_leafOf_12 rfl rfl ?_
  refine a_if_lt X 29 d_Mo_leafOf_13 (by decide) (fun c13 => ?_) (fun c13 => ?_)
  ·
    refine a_aload_n X 0 d_Mo_leafOf_29 rfl rfl ?_
    refine a_get X ff_Mo_19 d_Mo_leafOf_30 mq_203 rfl ?_
    refine a_iload X d_Mo_leafOf_33 rfl ?_
    refine a_iald X d_Mo_leafOf_35 mq_207 rfl (ab_ix_nI (by omega) (by decide)) ?_
    refine a_aload_n X 0 d_Mo_leafOf_36 rfl rfl ?_
    refine a_get X ff_Mo_19 d_Mo_leafOf_37 mq_203 rfl ?_
    refine a_iload X d_Mo_leafOf_40 rfl ?_
    refine a_iconst X (v := nI 1) d_Mo_leafOf_42 (by decide) ?_
    refine a_iadd X d_Mo_leafOf_43 ?_
    refine ab_topi (nI_add _ _) ?_
    refine a_iald X d_Mo_leafOf_44 mq_207 rfl (ab_ix_nI (by omega) (by decide)) ?_
    refine a_iadd X d_Mo_leafOf_45 ?_
    refine ab_topi (nI_add _ _) ?_
    refine a_aload_n X 0 d_Mo_leafOf_46 rfl rfl ?_
    refine a_get X ff_Mo_19 d_Mo_leafOf_47 mq_203 rfl ?_
    refine a_iload X d_Mo_leafOf_50 rfl ?_
    refine a_iconst X (v := nI 2) d_Mo_leafOf_52 (by decide) ?_
    refine a_iadd X d_Mo_leafOf_53 ?_
    refine ab_topi (nI_add _ _) ?_
    refine a_iald X d_Mo_leafOf_54 mq_207 rfl (ab_ix_nI (by omega) (by decide)) ?_
    refine a_iadd X d_Mo_leafOf_55 ?_
    refine ab_topi (nI_add _ _) ?_
    refine a_aload_n X 0 d_Mo_leafOf_56 rfl rfl ?_
    refine a_get X ff_Mo_19 d_Mo_leafOf_57 mq_203 rfl ?_
    refine a_iload X d_Mo_leafOf_60 rfl ?_
    refine a_iconst X (v := nI 3) d_Mo_leafOf_62 (by decide) ?_
    refine a_iadd X d_Mo_leafOf_63 ?_
    refine ab_topi (nI_add _ _) ?_
    refine a_iald X d_Mo_leafOf_64 mq_207 rfl (ab_ix_nI (by omega) (by decide)) ?_
    refine a_iadd X d_Mo_leafOf_65 ?_
    refine ab_topi (nI_add _ _) ?_
    refine a_i2l X d_Mo_leafOf_66 ?_
    refine ab_topl (nI_l (by omega)) ?_
    exact a_lret X d_Mo_leafOf_67 (Nat.le_refl _) (Nat.le_refl _) ⟨by unfold leaR; rw [if_pos hx, sum4]; rfl, rfl⟩
  ·
    exact absurd (show (-1 : Int32) < 0 by decide) c13
set_option maxHeartbeats 4000000 in
set_option maxRecDepth 20000 in
theorem c_Mo_lof_z {E : ab_E} {l : Launch} {r : hR} {s : hS} {w c : hW} {b : hB} {d : hD} {k : hK} {t : hT} {ms mk : hA} {mp : hP} {mw : Nat → Int32} {mc : hC} {md : Nat × (Nat → Int32)} {mt : hF} {me : hE} {kd p z : Nat} (hkd : kd < 4) (hp : p < 6) (hle : ∀ i, mk.2.2 i ≤ 4) (hz : z < 4) (hx : mp.2.1 p = nI z) : ab_Con E l y_Mo_leafOf b_Mo_leafOf 5 (some .long) 0 0 [.ref 204, .int (nI kd), .int (nI p)] (hc r s w c b d k t ++ hm ms mk mp mw mc md mt me) 0 0 (fun v h1 => v = some (.long (lN (leaR (vK mk) kd (mp.2.1 p)))) ∧ h1 = hc r s w c b d k t ++ hm ms mk mp mw mc md mt me) := by
  have b0 := hle (4 * kd + z)
  refine ab_con (own := "HiddenRowsModel") (ini := false) (by decide) (fun h => by cases h) rfl (Nat.le_of_ble_eq_true rfl) ?_
  intro G m X
  show ab_R E G m 5 0 0 0 [(0, .ref 204), (1, .int (nI kd)), (2, .int (nI p))] [] (hc r s w c b d k t ++ hm ms mk mp mw mc md mt me)
  refine a_aload_n X 0 d_Mo_leafOf_0 rfl rfl ?_
  refine a_get X ff_Mo_22 d_Mo_leafOf_1 mq_203 rfl ?_
  refine a_iload_n X 2 d_Mo_leafOf_4 rfl rfl ?_
  refine a_iald X d_Mo_leafOf_5 mq_208 rfl (ab_ix_nI (by omega) (by decide)) ?_
  refine ab_topi hx ?_
  refine a_istore_n X 3 d_Mo_leafOf_6 rfl (by decide) ?_
  refine a_iconst X (v := nI 4) d_Mo_leafOf_7 (by decide) ?_
  refine a_iload_n X 1 d_Mo_leafOf_8 rfl rfl ?_
  refine a_imul X d_Mo_leafOf_9 ?_
  refine ab_topi (pk_mul _ _) ?_
  refine a_istore X d_Mo_leafOf_10 (by decide) ?_
  refine a_iload_n X 3 d_Mo_leafOf_12 rfl rfl ?_
  refine a_if_ltN X 29 (by omega) d_Mo_leafOf_13 (by decide) ?_
  refine a_aload_n X 0 d_Mo_leafOf_16 rfl rfl ?_
  refine a_get X ff_Mo_19 d_Mo_leafOf_17 mq_203 rfl ?_
  refine a_iload X d_Mo_leafOf_20 rfl ?_
  refine a_iload_n X 3 d_Mo_leafOf_22 rfl rfl ?_
  refine a_iadd X d_Mo_leafOf_23 ?_
  refine ab_topi (nI_add _ _) ?_
  refine a_iald X d_Mo_leafOf_24 mq_207 rfl (ab_ix_nI (by omega) (by decide)) ?_
  refine a_i2l X d_Mo_leafOf_25 ?_
  refine ab_topl (nI_l (by omega)) ?_
  refine a_goto X 67 d_Mo_leafOf_26 (by decide) ?_
  exact a_lret X d_Mo_leafOf_67 (Nat.le_refl _) (Nat.le_refl _) ⟨by unfold leaR; rw [if_neg (by rw [hx]; exact fun q => absurd (q ▸ nI_pos (show z < 2 ^ 31 by omega)) (by decide)), hx, nI_clamp (by omega)]; rfl, rfl⟩
theorem c_Mo_lof {E : ab_E} {l : Launch} {r : hR} {s : hS} {w c : hW} {b : hB} {d : hD} {k : hK} {t : hT} {ms mk : hA} {mp : hP} {mw : Nat → Int32} {mc : hC} {md : Nat × (Nat → Int32)} {mt : hF} {me : hE} {kd p : Nat} (hkd : kd < 4) (hp : p < 6) (hle : ∀ i, mk.2.2 i ≤ 4) (hx : mp.2.1 p = -1 ∨ ∃ z, z < 4 ∧ mp.2.1 p = nI z) : ab_Con E l y_Mo_leafOf b_Mo_leafOf 5 (some .long) 0 0 [.ref 204, .int (nI kd), .int (nI p)] (hc r s w c b d k t ++ hm ms mk mp mw mc md mt me) 0 0 (fun v h1 => v = some (.long (lN (leaR (vK mk) kd (mp.2.1 p)))) ∧ h1 = hc r s w c b d k t ++ hm ms mk mp mw mc md mt me) := by
  rcases hx with hx | ⟨z, hz, hx⟩
  · exact c_Mo_lof_n hkd hp hle hx
  · exact c_Mo_lof_z hkd hp hle hz hx
set_option maxHeartbeats 4000000 in
set_option maxRecDepth 20000 in
theorem c_Mo_sho_n {E : ab_E} {l : Launch} {r : hR} {s : hS} {w c : hW} {b : hB} {d : hD} {k : hK} {t : hT} {ms mk : hA} {mp : hP} {mw : Nat → Int32} {mc : hC} {md : Nat × (Nat → Int32)} {mt : hF} {me : hE} {st p : Nat} (hst : st < 4) (hp : p < 6) (hx : mp.2.1 p = -1) : ab_Con E l y_Mo_show b_Mo_show 5 (some .int) 0 0 [.ref 204, .int (nI st), .int (nI p)] (hc r s w c b d k t ++ hm ms mk mp mw mc md mt me) 0 0 (fun v h1 => v = some (.int (nI (msh (vS ms).1 (mp.2.1 p) st))) ∧ h1 = hc r s w c b d k t ++ hm ms mk mp mw mc md mt me) := by
  refine ab_con (own := "HiddenRowsModel") (ini := false) (by decide) (fun h => by cases h) rfl (Nat.le_of_ble_eq_true rfl) ?_
  intro G m X
  show ab_R E G m 5 0 0 0 [(0, .ref 204), (1, .int (nI st)), (2, .int (nI p))] [] (hc r s w c b d k t ++ hm ms mk mp mw mc md mt me)
  refine a_aload_n X 0 d_Mo_show_0 rfl rfl ?_
  refine a_get X ff_Mo_22 d_Mo_show_1 mq_203 rfl ?_
  refine a_iload_n X 2 d_Mo_show_4 rfl rfl ?_
  refine a_iald X d_Mo_show_5 mq_208 rfl (ab_ix_nI (by omega) (by decide)) ?_
  refine ab_topi hx ?_
  refine a_istore_n X 3 d_Mo_show_6 rfl (by decide) ?_
  refine a_bipush X (v := nI 9) d_Mo_show_7 (by decide) ?_
  refine a_iload_n X 1 d_Mo_show_9 rfl rfl ?_
  refine a_imul X d_Mo_show_10 ?_
  refine ab_topi (pk_mul _ _) ?_
  refine a_iconst X (v := nI 5) d_Mo_show_11 (by decide) ?_
  refine a_iadd X d_Mo_show_12 ?_
  refine ab_topi (nI_add _ _) ?_
  refine a_istore X d_Mo_show_13 (by decide) ?_
  refine a_iload_n X 3 d_Mo_show_15 rfl rfl ?_
  refine a_if_lt X 31 d_Mo_show_16 (by decide) (fun c16 => ?_) (fun c16 => ?_)
  ·
    refine a_aload_n X 0 d_Mo_show_31 rfl rfl ?_
    refine a_get X ff_Mo_7 d_Mo_show_32 mq_203 rfl ?_
    refine a_iload X d_Mo_show_35 rfl ?_
    refine a_iald X d_Mo_show_37 mq_204 rfl (ab_ix_nI (by omega) (by decide)) ?_
    refine a_aload_n X 0 d_Mo_show_38 rfl rfl ?_
    refine a_get X ff_Mo_7 d_Mo_show_39 mq_203 rfl ?_
    refine a_iload X d_Mo_show_42 rfl ?_
    refine a_iconst X (v := nI 1) d_Mo_show_44 (by decide) ?_
    refine a_iadd X d_Mo_show_45 ?_
    refine ab_topi (nI_add _ _) ?_
    refine a_iald X d_Mo_show_46 mq_204 rfl (ab_ix_nI (by omega) (by decide)) ?_
    refine a_iadd X d_Mo_show_47 ?_
    refine ab_topi (nI_add _ _) ?_
    refine a_aload_n X 0 d_Mo_show_48 rfl rfl ?_
    refine a_get X ff_Mo_7 d_Mo_show_49 mq_203 rfl ?_
    refine a_iload X d_Mo_show_52 rfl ?_
    refine a_iconst X (v := nI 2) d_Mo_show_54 (by decide) ?_
    refine a_iadd X d_Mo_show_55 ?_
    refine ab_topi (nI_add _ _) ?_
    refine a_iald X d_Mo_show_56 mq_204 rfl (ab_ix_nI (by omega) (by decide)) ?_
    refine a_iadd X d_Mo_show_57 ?_
    refine ab_topi (nI_add _ _) ?_
    refine a_aload_n X 0 d_Mo_show_58 rfl rfl ?_
    refine a_get X ff_Mo_7 d_Mo_show_59 mq_203 rfl ?_
    refine a_iload X d_Mo_show_62 rfl ?_
    refine a_iconst X (v := nI 3) d_Mo_show_64 (by decide) ?_
    refine a_iadd X d_Mo_show_65 ?_
    refine ab_topi (nI_add _ _) ?_
    refine a_iald X d_Mo_show_66 mq_204 rfl (ab_ix_nI (by omega) (by decide)) ?_
    refine a_iadd X d_Mo_show_67 ?_
    refine ab_topi (nI_add _ _) ?_
    exact a_iret X d_Mo_show_68 (Nat.le_refl _) (Nat.le_refl _) ⟨by unfold msh; rw [if_pos hx, sum4]; rfl, rfl⟩
  ·
    exact absurd (show (-1 : Int32) < 0 by decide) c16
set_option maxHeartbeats 4000000 in
set_option maxRecDepth 20000 in
theorem c_Mo_sho_z {E : ab_E} {l : Launch} {r : hR} {s : hS} {w c : hW} {b : hB} {d : hD} {k : hK} {t : hT} {ms mk : hA} {mp : hP} {mw : Nat → Int32} {mc : hC} {md : Nat × (Nat → Int32)} {mt : hF} {me : hE} {st p z : Nat} (hst : st < 4) (hp : p < 6) (hz : z < 4) (hx : mp.2.1 p = nI z) : ab_Con E l y_Mo_show b_Mo_show 5 (some .int) 0 0 [.ref 204, .int (nI st), .int (nI p)] (hc r s w c b d k t ++ hm ms mk mp mw mc md mt me) 0 0 (fun v h1 => v = some (.int (nI (msh (vS ms).1 (mp.2.1 p) st))) ∧ h1 = hc r s w c b d k t ++ hm ms mk mp mw mc md mt me) := by
  refine ab_con (own := "HiddenRowsModel") (ini := false) (by decide) (fun h => by cases h) rfl (Nat.le_of_ble_eq_true rfl) ?_
  intro G m X
  show ab_R E G m 5 0 0 0 [(0, .ref 204), (1, .int (nI st)), (2, .int (nI p))] [] (hc r s w c b d k t ++ hm ms mk mp mw mc md mt me)
  refine a_aload_n X 0 d_Mo_show_0 rfl rfl ?_
  refine a_get X ff_Mo_22 d_Mo_show_1 mq_203 rfl ?_
  refine a_iload_n X 2 d_Mo_show_4 rfl rfl ?_
  refine a_iald X d_Mo_show_5 mq_208 rfl (ab_ix_nI (by omega) (by decide)) ?_
  refine ab_topi hx ?_
  refine a_istore_n X 3 d_Mo_show_6 rfl (by decide) ?_
  refine a_bipush X (v := nI 9) d_Mo_show_7 (by decide) ?_
  refine a_iload_n X 1 d_Mo_show_9 rfl rfl ?_
  refine a_imul X d_Mo_show_10 ?_
  refine ab_topi (pk_mul _ _) ?_
  refine a_iconst X (v := nI 5) d_Mo_show_11 (by decide) ?_
  refine a_iadd X d_Mo_show_12 ?_
  refine ab_topi (nI_add _ _) ?_
  refine a_istore X d_Mo_show_13 (by decide) ?_
  refine a_iload_n X 3 d_Mo_show_15 rfl rfl ?_
  refine a_if_ltN X 31 (by omega) d_Mo_show_16 (by decide) ?_
  refine a_aload_n X 0 d_Mo_show_19 rfl rfl ?_
  refine a_get X ff_Mo_7 d_Mo_show_20 mq_203 rfl ?_
  refine a_iload X d_Mo_show_23 rfl ?_
  refine a_iload_n X 3 d_Mo_show_25 rfl rfl ?_
  refine a_iadd X d_Mo_show_26 ?_
  refine ab_topi (nI_add _ _) ?_
  refine a_iald X d_Mo_show_27 mq_204 rfl (ab_ix_nI (by omega) (by decide)) ?_
  refine a_goto X 68 d_Mo_show_28 (by decide) ?_
  exact a_iret X d_Mo_show_68 (Nat.le_refl _) (Nat.le_refl _) ⟨by unfold msh; rw [if_neg (by rw [hx]; exact fun q => absurd (q ▸ nI_pos (show z < 2 ^ 31 by omega)) (by decide)), hx, nI_clamp (by omega)]; show _ = some (Value.int (nI (ms.2.1 (9 * st + (5 + z))))); rw [← Nat.add_assoc], rfl⟩
theorem c_Mo_sho {E : ab_E} {l : Launch} {r : hR} {s : hS} {w c : hW} {b : hB} {d : hD} {k : hK} {t : hT} {ms mk : hA} {mp : hP} {mw : Nat → Int32} {mc : hC} {md : Nat × (Nat → Int32)} {mt : hF} {me : hE} {st p : Nat} (hst : st < 4) (hp : p < 6) (hx : mp.2.1 p = -1 ∨ ∃ z, z < 4 ∧ mp.2.1 p = nI z) : ab_Con E l y_Mo_show b_Mo_show 5 (some .int) 0 0 [.ref 204, .int (nI st), .int (nI p)] (hc r s w c b d k t ++ hm ms mk mp mw mc md mt me) 0 0 (fun v h1 => v = some (.int (nI (msh (vS ms).1 (mp.2.1 p) st))) ∧ h1 = hc r s w c b d k t ++ hm ms mk mp mw mc md mt me) := by
  rcases hx with hx | ⟨z, hz, hx⟩
  · exact c_Mo_sho_n hst hp hx
  · exact c_Mo_sho_z hst hp hz hx
set_option maxHeartbeats 4000000 in
set_option maxRecDepth 20000 in
theorem c_Mo_sta {E : ab_E} {l : Launch} {r : hR} {s : hS} {w c : hW} {b : hB} {d : hD} {k : hK} {t : hT} {ms mk : hA} {mp : hP} {mw : Nat → Int32} {mc : hC} {md : Nat × (Nat → Int32)} {mt : hF} {me : hE} {pl : Nat} {vd : Nat → Nat} (hp : pl < 6) (hv : ∀ i, i ≤ pl → mw i = nI (vd i) ∧ vd i < 8) : ab_Con E l y_Mo_stay b_Mo_stay 4 (some .int) 0 0 [.ref 204, .int (nI pl)] (hc r s w c b d k t ++ hm ms mk mp mw mc md mt me) 0 0 (fun v h1 => v = some (.int (nI (sty vd pl))) ∧ h1 = hc r s w c b d k t ++ hm ms mk mp mw mc md mt me) := by
  refine ab_con (own := "HiddenRowsModel") (ini := false) (by decide) (fun h => by cases h) rfl (Nat.le_of_ble_eq_true rfl) ?_
  intro G m X
  show ab_R E G m 4 0 0 0 [(0, .ref 204), (1, .int (nI pl))] [] (hc r s w c b d k t ++ hm ms mk mp mw mc md mt me)
  refine a_iconst X (v := nI 1) d_Mo_stay_0 (by decide) ?_
  refine a_istore_n X 2 d_Mo_stay_1 rfl (by decide) ?_
  refine a_iload_n X 1 d_Mo_stay_2 rfl rfl ?_
  refine a_istore_n X 3 d_Mo_stay_3 rfl (by decide) ?_
  refine ab_sub [(0, .ref 204), (1, .int (nI pl)), (2, .int (nI 1)), (3, .int (nI pl))] rfl ?_
  suffices LP : ∀ (p n : Nat), p ≤ pl → n + sty vd p = sty vd pl + 1 → ab_R E G m 4 0 0 4 [(0, .ref 204), (1, .int (nI pl)), (2, .int (nI n)), (3, .int (nI p))] [] (hc r s w c b d k t ++ hm ms mk mp mw mc md mt me) from LP pl 1 (by omega) (by omega)
  intro p
  induction p with
  | zero =>
    intro n h1 h2
    refine a_iload_n X 3 d_Mo_stay_4 rfl rfl ?_
    refine a_if_leN X 29 (by omega) d_Mo_stay_5 (by decide) (fun c5 => ?_) (fun c5 => ?_)
    ·
      refine a_iload_n X 2 d_Mo_stay_29 rfl rfl ?_
      exact a_iret X d_Mo_stay_30 (Nat.le_refl _) (Nat.le_refl _) ⟨by rw [show n = sty vd pl by have : n + 1 = sty vd pl + 1 := h2; omega], rfl⟩
    ·
      exact absurd c5 (by omega)
  | succ p ih =>
    intro n h1 h2
    refine a_iload_n X 3 d_Mo_stay_4 rfl rfl ?_
    refine a_if_leN X 29 (by omega) d_Mo_stay_5 (by decide) (fun c5 => ?_) (fun c5 => ?_)
    ·
      exact absurd c5 (by omega)
    ·
      refine a_aload_n X 0 d_Mo_stay_8 rfl rfl ?_
      refine a_get X ff_Mo_28 d_Mo_stay_9 mq_203 rfl ?_
      refine a_iload_n X 3 d_Mo_stay_12 rfl rfl ?_
      refine a_iald X d_Mo_stay_13 mq_210 rfl (ab_ix_nI (j := p + 1) (by omega) (by decide)) ?_
      refine ab_topi (hv (p + 1) (by omega)).1 ?_
      have hv8 := (hv (p + 1) (by omega)).2
      refine a_iconst X (v := nI 2) d_Mo_stay_14 (by decide) ?_
      refine a_irem X d_Mo_stay_15 (by decide) ?_
      refine ab_topi (pk_rem (by omega) (by omega) (by omega)) ?_
      refine a_iconst X (v := nI 1) d_Mo_stay_16 (by decide) ?_
      refine a_icmp_neN X 29 (by omega) (by omega) d_Mo_stay_17 (by decide) (fun c17 => ?_) (fun c17 => ?_)
      ·
        have h3 : n + (if vd (p + 1) % 2 = 1 then sty vd p + 1 else 1) = sty vd pl + 1 := h2
        rw [if_neg c17] at h3
        refine a_iload_n X 2 d_Mo_stay_29 rfl rfl ?_
        exact a_iret X d_Mo_stay_30 (Nat.le_refl _) (Nat.le_refl _) ⟨by rw [show n = sty vd pl by omega], rfl⟩
      ·
        have h3 : n + (if vd (p + 1) % 2 = 1 then sty vd p + 1 else 1) = sty vd pl + 1 := h2
        rw [if_pos c17] at h3
        refine a_decN X d_Mo_stay_20 rfl (by decide) ?_
        refine a_incN X d_Mo_stay_23 rfl (by decide) ?_
        refine a_goto X 4 d_Mo_stay_26 (by decide) ?_
        refine ab_sub [(0, .ref 204), (1, .int (nI pl)), (2, .int (nI (n + 1))), (3, .int (nI p))] rfl ?_
        exact ih (n + 1) (by omega) (by omega)
set_option maxHeartbeats 4000000 in
set_option maxRecDepth 20000 in
theorem c_Mo_can {E : ab_E} {l : Launch} {r : hR} {s : hS} {w c : hW} {b : hB} {d : hD} {k : hK} {t : hT} {ms mk : hA} {mp : hP} {mw : Nat → Int32} {mc : hC} {md : Nat × (Nat → Int32)} {mt : hF} {me : hE} {p x : Nat} {vd : Nat → Nat} (hp : p < 6) (hq : ms.1 ≤ 4) (hx8 : x < 8) (hv : ∀ i, i < p → mw i = nI (vd i) ∧ vd i < 8) : ab_Con E l y_Mo_canBe b_Mo_canBe 3 (some .boolean) 1 23 [.ref 204, .int (nI p), .int (nI x)] (hc r s w c b d k t ++ hm ms mk mp mw mc md mt me) 0 0 (fun v h1 => v = some (.int (nI (cbR ms.1 vd p x))) ∧ h1 = hc r s w c b d k t ++ hm ms mk mp mw mc md mt me) := by
  refine ab_con (own := "HiddenRowsModel") (ini := false) (by decide) (fun h => by cases h) rfl (Nat.le_of_ble_eq_true rfl) ?_
  intro G m X
  show ab_R E G m 3 0 0 0 [(0, .ref 204), (1, .int (nI p)), (2, .int (nI x))] [] (hc r s w c b d k t ++ hm ms mk mp mw mc md mt me)
  refine a_iload_n X 2 d_Mo_canBe_0 rfl rfl ?_
  refine a_iconst X (v := nI 2) d_Mo_canBe_1 (by decide) ?_
  refine a_irem X d_Mo_canBe_2 (by decide) ?_
  refine ab_topi (pk_rem (by omega) (by omega) (by omega)) ?_
  refine a_if_neN X 22 (by omega) d_Mo_canBe_3 (by decide) (fun c3 => ?_) (fun c3 => ?_)
  ·
    refine a_iload_n X 1 d_Mo_canBe_22 rfl rfl ?_
    refine a_if_leN X 57 (by omega) d_Mo_canBe_23 (by decide) (fun c23 => ?_) (fun c23 => ?_)
    ·
      refine a_iconst X (v := nI 0) d_Mo_canBe_57 (by decide) ?_
      exact a_zret X rfl d_Mo_canBe_58 (Nat.le_refl _) (Nat.le_refl _) ⟨by unfold cbR; (repeat' split) <;> first | rfl | omega, rfl⟩
    ·
      refine a_aload_n X 0 d_Mo_canBe_26 rfl rfl ?_
      refine a_get X ff_Mo_28 d_Mo_canBe_27 mq_203 rfl ?_
      refine a_iload_n X 1 d_Mo_canBe_30 rfl rfl ?_
      refine a_iconst X (v := nI 1) d_Mo_canBe_31 (by decide) ?_
      refine a_isub X d_Mo_canBe_32 ?_
      refine ab_topi (pk_sub (by omega)) ?_
      refine a_iald X d_Mo_canBe_33 mq_210 rfl (ab_ix_nI (by omega) (by decide)) ?_
      refine ab_topi (hv (p - 1) (by omega)).1 ?_
      have hv8 := (hv (p - 1) (by omega)).2
      refine a_iconst X (v := nI 2) d_Mo_canBe_34 (by decide) ?_
      refine a_idiv X d_Mo_canBe_35 (by decide) ?_
      refine ab_topi (pk_div (by omega) (by omega) (by omega)) ?_
      refine a_iload_n X 2 d_Mo_canBe_36 rfl rfl ?_
      refine a_iconst X (v := nI 2) d_Mo_canBe_37 (by decide) ?_
      refine a_idiv X d_Mo_canBe_38 (by decide) ?_
      refine ab_topi (pk_div (by omega) (by omega) (by omega)) ?_
      refine a_icmp_neN X 57 (by omega) (by omega) d_Mo_canBe_39 (by decide) (fun c39 => ?_) (fun c39 => ?_)
      ·
        refine a_iconst X (v := nI 0) d_Mo_canBe_57 (by decide) ?_
        exact a_zret X rfl d_Mo_canBe_58 (Nat.le_refl _) (Nat.le_refl _) ⟨by unfold cbR; (repeat' split) <;> first | rfl | omega, rfl⟩
      ·
        refine a_aload_n X 0 d_Mo_canBe_42 rfl rfl ?_
        refine a_iload_n X 1 d_Mo_canBe_43 rfl rfl ?_
        refine a_iconst X (v := nI 1) d_Mo_canBe_44 (by decide) ?_
        refine a_isub X d_Mo_canBe_45 ?_
        refine ab_topi (pk_sub (by omega)) ?_
        refine a_callV X (a := 203) (As := [.int (nI _)]) mq_203 rfl fb_Mo_stay lk_Mo_101 im_Mo_stay se_Mo_stay (c_Mo_sta (vd := vd) (by omega) (fun i hi => hv i (by omega))) rfl rfl (Nat.le_of_ble_eq_true rfl) (by decide) (by decide) (Nat.le_refl _) (Nat.le_refl _) d_Mo_canBe_46 (fun v h1 hp => ?_)
        obtain ⟨rfl, rfl⟩ := hp
        have hsl := sty_le vd (p - 1)
        refine a_iconst X (v := nI 3) d_Mo_canBe_49 (by decide) ?_
        refine a_icmp_geN X 57 (by omega) (by omega) d_Mo_canBe_50 (by decide) (fun c50 => ?_) (fun c50 => ?_)
        ·
          refine a_iconst X (v := nI 0) d_Mo_canBe_57 (by decide) ?_
          exact a_zret X rfl d_Mo_canBe_58 (Nat.le_refl _) (Nat.le_refl _) ⟨by unfold cbR; (repeat' split) <;> first | rfl | omega, rfl⟩
        ·
          refine a_iconst X (v := nI 1) d_Mo_canBe_53 (by decide) ?_
          refine a_goto X 58 d_Mo_canBe_54 (by decide) ?_
          exact a_zret X rfl d_Mo_canBe_58 (Nat.le_refl _) (Nat.le_refl _) ⟨by unfold cbR; (repeat' split) <;> first | rfl | omega, rfl⟩
  ·
    refine a_iload_n X 2 d_Mo_canBe_6 rfl rfl ?_
    refine a_iconst X (v := nI 2) d_Mo_canBe_7 (by decide) ?_
    refine a_idiv X d_Mo_canBe_8 (by decide) ?_
    refine ab_topi (pk_div (by omega) (by omega) (by omega)) ?_
    refine a_aload_n X 0 d_Mo_canBe_9 rfl rfl ?_
    refine a_get X ff_Mo_75 d_Mo_canBe_10 mq_203 rfl ?_
    refine a_icmp_geN X 20 (by omega) (by omega) d_Mo_canBe_13 (by decide) (fun c13 => ?_) (fun c13 => ?_)
    ·
      refine a_iconst X (v := nI 0) d_Mo_canBe_20 (by decide) ?_
      exact a_zret X rfl d_Mo_canBe_21 (Nat.le_refl _) (Nat.le_refl _) ⟨by unfold cbR; (repeat' split) <;> first | rfl | omega, rfl⟩
    ·
      refine a_iconst X (v := nI 1) d_Mo_canBe_16 (by decide) ?_
      refine a_goto X 21 d_Mo_canBe_17 (by decide) ?_
      exact a_zret X rfl d_Mo_canBe_21 (Nat.le_refl _) (Nat.le_refl _) ⟨by unfold cbR; (repeat' split) <;> first | rfl | omega, rfl⟩
