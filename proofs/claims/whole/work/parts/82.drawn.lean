set_option maxHeartbeats 4000000 in
set_option maxRecDepth 20000 in
theorem c_H_drawn {E : ab_E} {l : Launch} {r : hR} {s : hS} {w c : hW} {b : hB} {d : hD} {k : hK} {t : hT} {Z : List ab_C} {x : Int32} {I : hW → Nat → hD → Nat → Prop} (hr : okR r) (hs : okS s) (hk : w.2.2.2.2.2 = 0 ∨ w.2.2.2.2.2 = 1 ∧ okW id r s w) (hI : ∀ (w1 : hW) (p : Nat) (d1 : hD) (lf : Nat), okW id r s w1 → p < r.2.2 → I w1 p d1 lf → d1.2.2.2.2.2 = 1 ∧ d1.2.1 < 4 ∧ d1.2.2.1 ≤ p ∧ p - d1.2.2.1 ≤ 3 ∧ d1.2.2.2.2.1 < 2 ^ 20 ∧ lf < 2 ^ 63 ∧ (∀ x, x < 2 * s.2.2 → sumD s r.2.2 w1 (d1.1, d1.2.1, d1.2.2.1, opS s w1 d1 p, d1.2.2.2.2.1, d1.2.2.2.2.2) p x < 2 ^ 63) ∧ lf < sumR (fun y0 => sumD s r.2.2 w1 (d1.1, d1.2.1, d1.2.2.1, opS s w1 d1 p, d1.2.2.2.2.1, d1.2.2.2.2.2) p y0) 0 (2 * s.2.2) ∧ ∀ x, x < 2 * s.2.2 → sumR (fun y0 => sumD s r.2.2 w1 (d1.1, d1.2.1, d1.2.2.1, opS s w1 d1 p, d1.2.2.2.2.1, d1.2.2.2.2.2) p y0) 0 x ≤ lf → lf < sumR (fun y0 => sumD s r.2.2 w1 (d1.1, d1.2.1, d1.2.2.1, opS s w1 d1 p, d1.2.2.2.2.1, d1.2.2.2.2.2) p y0) 0 (x + 1) → I w1 (p + 1) (takD s (d1.1, d1.2.1, d1.2.2.1, opS s w1 d1 p, d1.2.2.2.2.1, d1.2.2.2.2.2) p x) (lf - sumR (fun y0 => sumD s r.2.2 w1 (d1.1, d1.2.1, d1.2.2.1, opS s w1 d1 p, d1.2.2.2.2.1, d1.2.2.2.2.2) p y0) 0 x)) (hE : ∀ (w1 : hW) (d1 : hD) (lf : Nat), okW id r s w1 → I w1 r.2.2 d1 lf → d1.2.1 < 4 ∧ d1.2.2.1 ≤ r.2.2) (hT : ∀ w1, okW id r s w1 → (if r.2.2 = 0 then 0 else sumR (fun y => w1.2.2.2.2.1 0 y * w1.2.1 0 y) 0 s.2.2) < 2 ^ 63) (h0 : ∀ w1 w2, okW id r s w1 → okW id r s w2 → 0 < (if r.2.2 = 0 then 0 else sumR (fun y => w1.2.2.2.2.1 0 y * w1.2.1 0 y) 0 s.2.2) → I w2 0 (1, 0, 0, d.2.2.2.1, 0, 1) (drN x % (if r.2.2 = 0 then 0 else sumR (fun y => w1.2.2.2.2.1 0 y * w1.2.1 0 y) 0 s.2.2))) : ab_Con E l y_H_drawn b_H_drawn 4 (some .long) 6 149 [.ref 1, .int x] (hc r s w c b d k t ++ Z) 0 0 (fun v h1 => ∃ w1 : hW, okW id r s w1 ∧ w1.2.2.2.2.2 = 1 ∧ (w.2.2.2.2.2 = 1 → w1 = w) ∧ (((if r.2.2 = 0 then 0 else sumR (fun y => w1.2.2.2.2.1 0 y * w1.2.1 0 y) 0 s.2.2) = 0 ∧ v = some (.long (-3)) ∧ h1 = hc r s w1 c b d k t ++ Z) ∨ (0 < (if r.2.2 = 0 then 0 else sumR (fun y => w1.2.2.2.2.1 0 y * w1.2.1 0 y) 0 s.2.2) ∧ ∃ (d1 : hD) (lf1 : Nat), I w1 r.2.2 d1 lf1 ∧ v = some (.long (lN (d1.1 * opS s w1 d1 r.2.2 * s.1 d1.2.1 1))) ∧ h1 = hc r s w1 c b d1 k t ++ Z))) := by
  refine ab_con (own := "HiddenRows") (ini := false) (by decide) (fun h => by cases h) rfl (Nat.le_of_ble_eq_true rfl) ?_
  intro G m X
  show ab_R E G m 4 0 0 0 [(0, .ref 1), (1, .int x)] [] (hc r s w c b d k t ++ Z)
  refine a_aload_n X 0 d_H_drawn_0 rfl rfl ?_
  refine a_get X ff_H_28 d_H_drawn_1 hq_0 rfl ?_
  refine a_callV X (a := 15) (As := []) hq_15 rfl fb_Ws_whole lk_H_119 im_Ws_whole se_Ws_whole (c_who_w hr hs hk) rfl rfl (Nat.le_of_ble_eq_true rfl) (by decide) (by decide) (Nat.le_refl _) (Nat.le_refl _) d_H_drawn_4 (fun v h1 hp => ?_)
  obtain ⟨w1, hok, hkn, hsm, rfl, rfl⟩ := hp
  have hT1 := hT w1 hok
  refine a_lstore_n X 2 d_H_drawn_7 rfl (by decide) ?_
  refine a_lload_n X 2 d_H_drawn_8 rfl rfl ?_
  refine a_lconst X (v := lN 0) d_H_drawn_9 (by decide) ?_
  refine a_lc_gt X 18 hT1 (by omega) d_H_drawn_10 d_H_drawn_11 (by decide) (fun c10 => ?_) (fun c10 => ?_)
  ·
    refine a_aload_n X 0 d_H_drawn_18 rfl rfl ?_
    refine a_get X ff_H_47 d_H_drawn_19 hq_0 rfl ?_
    refine a_iload_n X 1 d_H_drawn_22 rfl rfl ?_
    refine a_callS X (As := [.int _]) fb_Dr_spread lk_H_165 sm_Dr_spread (c_Dr_spread) rfl rfl (Nat.le_of_ble_eq_true rfl) (by decide) (by decide) (Nat.le_refl _) (Nat.le_refl _) d_H_drawn_23 (fun v h1 hp => ?_)
    obtain ⟨rfl, rfl⟩ := hp
    refine a_lload_n X 2 d_H_drawn_26 rfl rfl ?_
    refine a_lrem X d_H_drawn_27 (fun q => Nat.ne_of_gt c10 ((pk_lEQ hT1 (by omega)).mp q)) ?_
    refine ab_topl (pk_lRem (drN_lt x) c10 hT1) ?_
    refine a_callV X (a := 168) (As := [.long (lN _)]) hq_168 rfl fb_Dr_draw lk_H_169 im_Dr_draw se_Dr_draw (c_Dr_drw (I := I) hr hs (Or.inr ⟨hkn, hok⟩) hI hE (fun w2 h2 => h0 w1 w2 hok h2 c10)) rfl rfl (Nat.le_of_ble_eq_true rfl) (by decide) (by decide) (Nat.le_refl _) (Nat.le_refl _) d_H_drawn_28 (fun v h1 hp => ?_)
    obtain ⟨w2, hok2, hkn2, hsm2, d1, lf1, hIv, rfl, rfl⟩ := hp
    obtain rfl := (hsm2 hkn).symm
    exact a_lret X d_H_drawn_31 (Nat.le_refl _) (Nat.le_refl _) ⟨w1, hok, hkn, hsm, Or.inr ⟨c10, d1, lf1, hIv, rfl, rfl⟩⟩
  ·
    refine a_ldc2 X kc_H_157 d_H_drawn_14 ?_
    exact a_lret X d_H_drawn_17 (Nat.le_refl _) (Nat.le_refl _) ⟨w1, hok, hkn, hsm, Or.inl ⟨Nat.le_zero.mp c10, rfl, rfl⟩⟩
