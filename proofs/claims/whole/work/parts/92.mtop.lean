set_option maxHeartbeats 4000000 in
set_option maxRecDepth 20000 in
theorem c_Mo_top_z {E : ab_E} {l : Launch} {r : hR} {s : hS} {w c : hW} {b : hB} {d : hD} {k : hK} {t : hT} {ms mk : hA} {mp : hP} {mw : Nat → Int32} {mc : hC} {md : Nat × (Nat → Int32)} {mt : hF} {me : hE} {p : Nat} (hM : okM ms mp) (hk : mc.1 = 0 ∨ mc.1 = 1 ∧ knM ms mp mc) (hp : p < mp.1) (hT0 : sumR (wtc ms mp) 0 (FB mp.1) = 0) : ab_Con E l y_Mo_top b_Mo_top 4 (some .int) 4 91 [.ref 204, .int (nI p)] (hc r s w c b d k t ++ hm ms mk mp mw mc md mt me) 0 0 (fun v h1 => ∃ (mw1 : Nat → Int32) (mc1 : hC), knM ms mp mc1 ∧ (mc.1 = 1 → mc1 = mc) ∧ v = some (.int (-3)) ∧ h1 = hc r s w c b d k t ++ hm ms mk mp mw1 mc1 md mt me) := by
  refine ab_con (own := "HiddenRowsModel") (ini := false) (by decide) (fun h => by cases h) rfl (Nat.le_of_ble_eq_true rfl) ?_
  intro G m X
  show ab_R E G m 4 0 0 0 [(0, .ref 204), (1, .int (nI p))] [] (hc r s w c b d k t ++ hm ms mk mp mw mc md mt me)
  refine a_aload_n X 0 d_Mo_top_0 rfl rfl ?_
  refine a_iload_n X 1 d_Mo_top_1 rfl rfl ?_
  refine a_callV X (a := 203) (As := [.int _]) mq_203 rfl fb_Mo_isPlace lk_Mo_98 im_Mo_isPlace se_Mo_isPlace (c_Mo_isPlace_y hp hM.1) rfl rfl (Nat.le_of_ble_eq_true rfl) (by decide) (by decide) (Nat.le_refl _) (Nat.le_refl _) d_Mo_top_2 (fun v h1 hp => ?_)
  obtain ⟨rfl, rfl⟩ := hp
  refine a_if_neN X 10 (by omega) d_Mo_top_5 (by decide) (fun c5 => ?_) (fun c5 => ?_)
  ·
    refine a_aload_n X 0 d_Mo_top_10 rfl rfl ?_
    refine a_callV X (a := 203) (As := []) mq_203 rfl fb_Mo_know lk_Mo_138 im_Mo_know se_Mo_know (c_Mo_kno hM hk) rfl rfl (Nat.le_of_ble_eq_true rfl) (by decide) (by decide) (Nat.le_refl _) (Nat.le_refl _) d_Mo_top_11 (fun v h1 hp => ?_)
    obtain ⟨mw1, mc1, hA, hsm, rfl, rfl⟩ := hp
    have hz : mc1.2.1 = 0 := by rw [hA.2.1]; exact hT0
    refine a_aload_n X 0 d_Mo_top_14 rfl rfl ?_
    refine a_get X ff_Mo_116 d_Mo_top_15 mq_203 rfl ?_
    refine a_lconst X (v := lN 0) d_Mo_top_18 (by decide) ?_
    refine a_lc_ne X 26 (by omega) (by omega) d_Mo_top_19 d_Mo_top_20 (by decide) (fun c19 => ?_) (fun c19 => ?_)
    ·
      exact absurd hz c19
    ·
      refine a_bipush X (v := -3) d_Mo_top_23 (by decide) ?_
      exact a_iret X d_Mo_top_25 (Nat.le_refl _) (Nat.le_refl _) ⟨mw1, mc1, hA, hsm, rfl, rfl⟩
  ·
    exfalso
    omega
