set_option maxHeartbeats 4000000 in
theorem j_state {E : ab_E} {l : Launch} : ∀ h, sA h → JN E l y_H_state y_Mo_state b_H_state b_Mo_state 1 2 .int 1 20 1 20 Int32 Value.int [] h := by
  rintro h ⟨r, s, w, c, b, d, k, t, ms, mk, mp, mw, mc, md, mt, me, rfl, h⟩
  obtain ⟨q1, q2, q3, q4, q5, q6⟩ := relA_q h
  obtain ⟨⟨hr, hH, hs, hS, hR⟩, ⟨-, hK, hk, -⟩, hM, hQ, hz, cw, ccc, cb, ct, cm, cd⟩ := id h
  rcases Nat.lt_or_ge s.2.2 4 with g | g
  · exact jn_step (c_H_state_ok g) (c_Mo_state_ok (by omega)) (congrArg nI q2) hO_mk (sA_mk (relA_state h g))
  · exact jn_same h (c_H_state_no (by omega)) (c_Mo_state_no (by omega))
set_option maxHeartbeats 4000000 in
theorem j_weight {E : ab_E} {l : Launch} {a e x : Int32} : ∀ h, sA h → JN E l y_H_weight y_Mo_weight b_H_weight b_Mo_weight 5 5 .int 1 21 1 21 Int32 Value.int [.int a, .int e, .int x] h := by
  rintro h ⟨r, s, w, c, b, d, k, t, ms, mk, mp, mw, mc, md, mt, me, rfl, h⟩
  obtain ⟨q1, q2, q3, q4, q5, q6⟩ := relA_q h
  obtain ⟨⟨hr, hH, hs, hS, hR⟩, ⟨-, hK, hk, -⟩, hM, hQ, hz, cw, ccc, cb, ct, cm, cd⟩ := id h
  rcases i_cases a (q := s.2.2) (by omega) with ha | ⟨j, hj, rfl⟩
  · exact jn_same h (c_H_weight_s ha) (c_Mo_weight_s (by rw [q2]; exact ha))
  · rcases i_cases e (q := 9) (by omega) with he | ⟨z, hz9, rfl⟩
    · exact jn_same h (c_H_weight_w q1 hj he) (c_Mo_weight_w (by omega) (by omega) he)
    · rcases i_cases2 x with hx | ⟨x, hx, rfl⟩
      · exact jn_same h (c_H_weight_x q1 hj hz9 hx) (c_Mo_weight_x (by omega) (by omega) hz9 hx)
      · exact jn_step (c_H_weight_ok q1 hj hz9 hx) (c_Mo_weight_ok (by omega) (by omega) hz9 hx) (congrArg nI (hS.2.1 j z (by omega) hz9).symm) hO_mk (sA_mk (relA_weight h hj hz9 hx))
set_option maxHeartbeats 4000000 in
theorem j_move {E : ab_E} {l : Launch} {a e x : Int32} : ∀ h, sA h → JN E l y_H_move y_Mo_move b_H_move b_Mo_move 5 5 .int 1 21 1 21 Int32 Value.int [.int a, .int e, .int x] h := by
  rintro h ⟨r, s, w, c, b, d, k, t, ms, mk, mp, mw, mc, md, mt, me, rfl, h⟩
  obtain ⟨q1, q2, q3, q4, q5, q6⟩ := relA_q h
  obtain ⟨⟨hr, hH, hs, hS, hR⟩, ⟨-, hK, hk, -⟩, hM, hQ, hz, cw, ccc, cb, ct, cm, cd⟩ := id h
  rcases i_cases a (q := s.2.2) (by omega) with ha | ⟨j, hj, rfl⟩
  · exact jn_same h (c_H_move_s ha) (c_Mo_move_s (by rw [q2]; exact ha))
  · rcases i_cases e (q := s.2.2) (by omega) with he | ⟨z, hz9, rfl⟩
    · exact jn_same h (c_H_move_t q1 hj he) (c_Mo_move_t (by omega) (by omega) (by rw [q2]; exact he))
    · rcases i_cases2 x with hx | ⟨x, hx, rfl⟩
      · exact jn_same h (c_H_move_x q1 hj hz9 hx) (c_Mo_move_x (by omega) (by omega) (by omega) hx)
      · exact jn_step (c_H_move_ok q1 hj hz9 hx) (c_Mo_move_ok (by omega) (by omega) (by omega) hx) (congrArg nI (hS.2.2 j z (by omega) (by omega)).symm) hO_mk (sA_mk (relA_move h hj hz9 hx))
set_option maxHeartbeats 4000000 in
theorem j_kind {E : ab_E} {l : Launch} : ∀ h, sA h → JN E l y_H_kind y_Mo_kind b_H_kind b_Mo_kind 1 1 .int 1 20 0 0 Int32 Value.int [] h := by
  rintro h ⟨r, s, w, c, b, d, k, t, ms, mk, mp, mw, mc, md, mt, me, rfl, h⟩
  obtain ⟨q1, q2, q3, q4, q5, q6⟩ := relA_q h
  obtain ⟨⟨hr, hH, hs, hS, hR⟩, ⟨-, hK, hk, -⟩, hM, hQ, hz, cw, ccc, cb, ct, cm, cd⟩ := id h
  rcases Nat.lt_or_ge k.2.2 4 with g | g
  · exact jn_step (c_H_kind_ok g) (c_Mo_kind_ok (by omega)) (congrArg nI q6) hO_mk (sA_mk (relA_kind h g))
  · exact jn_same h (c_H_kind_no (by omega)) (c_Mo_kind_no (by omega))
set_option maxHeartbeats 4000000 in
theorem j_rule {E : ab_E} {l : Launch} {a e f x : Int32} : ∀ h, sA h → JN E l y_H_rule y_Mo_rule b_H_rule b_Mo_rule 7 6 .int 1 21 1 21 Int32 Value.int [.int a, .int e, .int f, .int x] h := by
  rintro h ⟨r, s, w, c, b, d, k, t, ms, mk, mp, mw, mc, md, mt, me, rfl, h⟩
  obtain ⟨q1, q2, q3, q4, q5, q6⟩ := relA_q h
  obtain ⟨⟨hr, hH, hs, hS, hR⟩, ⟨-, hK, hk, -⟩, hM, hQ, hz, cw, ccc, cb, ct, cm, cd⟩ := id h
  rcases i_cases a (q := k.2.2) (by omega) with ha | ⟨a, ha, rfl⟩
  · exact jn_same h (c_H_rule_a ha) (c_Mo_rule_a (by rw [q6]; exact ha))
  · rcases i_cases e (q := k.2.2) (by omega) with he | ⟨e, he, rfl⟩
    · exact jn_same h (c_H_rule_b q5 ha he) (c_Mo_rule_b (by omega) (by omega) (by rw [q6]; exact he))
    · rcases i_cases f (q := k.2.2) (by omega) with hf | ⟨f, hf, rfl⟩
      · exact jn_same h (c_H_rule_c q5 ha he hf) (c_Mo_rule_c (by omega) (by omega) (by omega) (by rw [q6]; exact hf))
      · rcases i_cases2 x with hx | ⟨x, hx, rfl⟩
        · exact jn_same h (c_H_rule_x q5 ha he hf hx) (c_Mo_rule_x (by omega) (by omega) (by omega) (by omega) hx)
        · exact jn_step (c_H_rule_ok q5 ha he hf hx) (c_Mo_rule_ok (by omega) (by omega) (by omega) (by omega) hx) (congrArg nI (by rw [hk.2.1 a e f (by omega) (by omega) (by omega), show 16 * a + (e * 4 + f) = 16 * a + 4 * e + f by omega])) hO_mk (sA_mk (relA_rule h ha he hf hx))
set_option maxHeartbeats 4000000 in
theorem j_leaf {E : ab_E} {l : Launch} {a e x : Int32} : ∀ h, sA h → JN E l y_H_leaf y_Mo_leaf b_H_leaf b_Mo_leaf 5 5 .int 1 21 1 21 Int32 Value.int [.int a, .int e, .int x] h := by
  rintro h ⟨r, s, w, c, b, d, k, t, ms, mk, mp, mw, mc, md, mt, me, rfl, h⟩
  obtain ⟨q1, q2, q3, q4, q5, q6⟩ := relA_q h
  obtain ⟨⟨hr, hH, hs, hS, hR⟩, ⟨-, hK, hk, -⟩, hM, hQ, hz, cw, ccc, cb, ct, cm, cd⟩ := id h
  rcases i_cases a (q := k.2.2) (by omega) with ha | ⟨a, ha, rfl⟩
  · exact jn_same h (c_H_leaf_a ha) (c_Mo_leaf_a (by rw [q6]; exact ha))
  · rcases i_cases e (q := 4) (by omega) with he | ⟨z, hz4, rfl⟩
    · exact jn_same h (c_H_leaf_s q5 ha he) (c_Mo_leaf_s (by omega) (by omega) he)
    · rcases i_cases2 x with hx | ⟨x, hx, rfl⟩
      · exact jn_same h (c_H_leaf_x q5 ha hz4 hx) (c_Mo_leaf_x (by omega) (by omega) hz4 hx)
      · exact jn_step (c_H_leaf_ok q5 ha hz4 hx) (c_Mo_leaf_ok (by omega) (by omega) hz4 hx) (congrArg nI (hk.2.2 a z (by omega) hz4).symm) hO_mk (sA_mk (relA_leaf h ha hz4 hx))
set_option maxHeartbeats 4000000 in
theorem j_sign {E : ab_E} {l : Launch} {x : Int32} : ∀ h, sA h → JN E l y_H_sign y_Mo_sign b_H_sign b_Mo_sign 2 2 .int 1 21 1 20 Int32 Value.int [.int x] h := by
  rintro h ⟨r, s, w, c, b, d, k, t, ms, mk, mp, mw, mc, md, mt, me, rfl, h⟩
  obtain ⟨q1, q2, q3, q4, q5, q6⟩ := relA_q h
  obtain ⟨⟨hr, hH, hs, hS, hR⟩, ⟨-, hK, hk, -⟩, hM, hQ, hz, cw, ccc, cb, ct, cm, cd⟩ := id h
  rcases i_sign x with hx | ⟨h1, h2, h3⟩
  · exact jn_same h (c_H_sign_b hx) (c_Mo_sign_b hx)
  · rcases Nat.lt_or_ge r.2.2 6 with g | g
    · exact jn_step (c_H_sign_ok h1 h2 g) (c_Mo_sign_ok h1 h2 (by omega)) (congrArg nI (by rw [q4])) hO_mk (sA_mk (relA_sign h h3 g))
    · exact jn_same h (c_H_sign_f h1 h2 (by omega)) (c_Mo_sign_f h1 h2 (by omega))
set_option maxHeartbeats 4000000 in
theorem j_clear {E : ab_E} {l : Launch} : ∀ h, sA h → JN E l y_H_clear y_Mo_clear b_H_clear b_Mo_clear 2 2 .int 1 20 1 20 Int32 Value.int [] h := by
  rintro h ⟨r, s, w, c, b, d, k, t, ms, mk, mp, mw, mc, md, mt, me, rfl, h⟩
  obtain ⟨q1, q2, q3, q4, q5, q6⟩ := relA_q h
  obtain ⟨⟨hr, hH, hs, hS, hR⟩, ⟨-, hK, hk, -⟩, hM, hQ, hz, cw, ccc, cb, ct, cm, cd⟩ := id h
  exact jn_step c_H_clear c_Mo_clear (congrArg nI q4) hO_mk (sA_mk (relA_clear h))
set_option maxHeartbeats 4000000 in
theorem j_hold {E : ab_E} {l : Launch} {a e : Int32} : ∀ h, sA h → JN E l y_H_hold y_Mo_hold b_H_hold b_Mo_hold 4 4 .int 1 21 1 21 Int32 Value.int [.int a, .int e] h := by
  rintro h ⟨r, s, w, c, b, d, k, t, ms, mk, mp, mw, mc, md, mt, me, rfl, h⟩
  obtain ⟨q1, q2, q3, q4, q5, q6⟩ := relA_q h
  obtain ⟨⟨hr, hH, hs, hS, hR⟩, ⟨-, hK, hk, -⟩, hM, hQ, hz, cw, ccc, cb, ct, cm, cd⟩ := id h
  rcases i_cases a (q := r.2.2) (by omega) with ha | ⟨p, hp, rfl⟩
  · exact jn_same h (c_H_hold_p ha) (c_Mo_hold_p (by rw [q4]; exact ha))
  · have hv : mp.2.2 p = r.2.1 p := by rw [hR]; rfl
    by_cases e1 : e = -1
    · subst e1
      exact jn_step (c_H_hold_n q3 hp) (c_Mo_hold_n (by omega) (by omega)) hv hO_mk (sA_mk (relA_hold h (Or.inl rfl)))
    · rcases i_cases e (q := s.2.2) (by omega) with he | ⟨j, hj, rfl⟩
      · exact jn_same h (c_H_hold_x q3 hp e1 he) (c_Mo_hold_x (by omega) (by omega) e1 (by rw [q2]; exact he))
      · exact jn_step (c_H_hold_s q3 hp q1 hj) (c_Mo_hold_s (by omega) (by omega) (by omega) (by omega)) hv hO_mk (sA_mk (relA_hold h (Or.inr ⟨j, by omega, rfl⟩)))
set_option maxHeartbeats 4000000 in
theorem j_total {E : ab_E} {l : Launch} : ∀ h, sA h → JN E l y_H_total y_Mo_total b_H_total b_Mo_total 1 1 .long 6 138 4 91 Int64 Value.long [] h := by
  rintro h ⟨r, s, w, c, b, d, k, t, ms, mk, mp, mw, mc, md, mt, me, rfl, h⟩
  obtain ⟨q1, q2, q3, q4, q5, q6⟩ := relA_q h
  obtain ⟨⟨hr, hH, hs, hS, hR⟩, ⟨-, hK, hk, -⟩, hM, hQ, hz, cw, ccc, cb, ct, cm, cd⟩ := id h
  refine ⟨_, c_H_total hr hs cw, fun v h1 hp1 => ?_⟩
  obtain ⟨w1, ok1, kn1, -, rfl, rfl⟩ := hp1
  refine ⟨hO_mk, ⟨_, rfl⟩, _, c_Mo_total hM cm, fun v2 h2 hp2 => ?_⟩
  obtain ⟨mw1, mc1, kn2, -, rfl, rfl⟩ := hp2
  exact ⟨by rw [eq_total h.1 ok1, kn2.2.1], sA_mk (relA_m (relA_w h ok1 kn1) kn2)⟩
set_option maxHeartbeats 4000000 in
theorem j_ways {E : ab_E} {l : Launch} : ∀ h, sA h → JN E l y_H_ways y_Mo_ways b_H_ways b_Mo_ways 1 1 .int 6 138 4 91 Int32 Value.int [] h := by
  rintro h ⟨r, s, w, c, b, d, k, t, ms, mk, mp, mw, mc, md, mt, me, rfl, h⟩
  obtain ⟨q1, q2, q3, q4, q5, q6⟩ := relA_q h
  obtain ⟨⟨hr, hH, hs, hS, hR⟩, ⟨-, hK, hk, -⟩, hM, hQ, hz, cw, ccc, cb, ct, cm, cd⟩ := id h
  refine ⟨_, c_H_ways hr hs ccc, fun v h1 hp1 => ?_⟩
  obtain ⟨w1, ok1, kn1, -, rfl, rfl⟩ := hp1
  refine ⟨hO_mk, ⟨_, rfl⟩, _, c_Mo_ways hM cm, fun v2 h2 hp2 => ?_⟩
  obtain ⟨mw1, mc1, kn2, -, rfl, rfl⟩ := hp2
  exact ⟨by rw [eq_ways h.1 ok1 kn2], sA_mk (relA_m (relA_c h ok1 kn1) kn2)⟩
set_option maxHeartbeats 4000000 in
theorem j_share {E : ab_E} {l : Launch} {a e x : Int32} : ∀ h, sA h → JN E l y_H_share y_Mo_share b_H_share b_Mo_share 4 4 .long 6 140 4 91 Int64 Value.long [.int a, .int e, .int x] h := by
  rintro h ⟨r, s, w, c, b, d, k, t, ms, mk, mp, mw, mc, md, mt, me, rfl, h⟩
  obtain ⟨q1, q2, q3, q4, q5, q6⟩ := relA_q h
  obtain ⟨⟨hr, hH, hs, hS, hR⟩, ⟨-, hK, hk, -⟩, hM, hQ, hz, cw, ccc, cb, ct, cm, cd⟩ := id h
  rcases i_cases a (q := r.2.2) (by omega) with ha | ⟨p, hp, rfl⟩
  · exact jn_same h (c_H_share_p ha) (c_Mo_share_p (by rw [q4]; exact ha))
  · rcases i_cases e (q := s.2.2) (by omega) with he | ⟨j, hj, rfl⟩
    · exact jn_same h (c_H_share_s q3 hp he) (c_Mo_share_s (by omega) (by omega) (by rw [q2]; exact he))
    · rcases i_part x with hx | ⟨pt, hpt, rfl⟩
      · exact jn_same h (c_H_share_x q3 hp q1 hj hx) (c_Mo_share_x (by omega) (by omega) (by omega) (by omega) hx)
      ·
        refine ⟨_, c_H_share_ok hr hs cw hp hj hpt (fun w1 hw => lt_over h.1 hw hp hj) (lt_tot h.1), fun v h1 hp1 => ?_⟩
        obtain ⟨w1, ok1, kn1, -, rfl, rfl⟩ := hp1
        refine ⟨hO_mk, ⟨_, rfl⟩, _, c_Mo_share_ok hM cm (by omega) (by omega) hpt (relW_lt h.1), fun v2 h2 hp2 => ?_⟩
        obtain ⟨mw1, mc1, kn2, -, rfl, rfl⟩ := hp2
        exact ⟨by rw [eq_total h.1 ok1, eq_share h.1 ok1 kn2 hp hj, kn2.2.1], sA_mk (relA_m (relA_w h ok1 kn1) kn2)⟩
set_option maxHeartbeats 4000000 in
theorem j_begin {E : ab_E} {l : Launch} {a e x : Int32} : ∀ h, sA h → JN E l y_H_begin y_Mo_begin b_H_begin b_Mo_begin 4 4 .long 6 138 4 91 Int64 Value.long [.int a, .int e, .int x] h := by
  rintro h ⟨r, s, w, c, b, d, k, t, ms, mk, mp, mw, mc, md, mt, me, rfl, h⟩
  obtain ⟨q1, q2, q3, q4, q5, q6⟩ := relA_q h
  obtain ⟨⟨hr, hH, hs, hS, hR⟩, ⟨-, hK, hk, -⟩, hM, hQ, hz, cw, ccc, cb, ct, cm, cd⟩ := id h
  rcases i_cases a (q := r.2.2) (by omega) with ha | ⟨p, hp, rfl⟩
  · exact jn_same h (c_H_begin_p ha) (c_Mo_begin_p (by rw [q4]; exact ha))
  · rcases i_cases e (q := s.2.2) (by omega) with he | ⟨j, hj, rfl⟩
    · exact jn_same h (c_H_begin_s q3 hp he) (c_Mo_begin_s (by omega) (by omega) (by rw [q2]; exact he))
    · rcases i_part x with hx | ⟨pt, hpt, rfl⟩
      · exact jn_same h (c_H_begin_x q3 hp q1 hj hx) (c_Mo_begin_x (by omega) (by omega) (by omega) (by omega) hx)
      ·
        refine ⟨_, c_H_begin_ok hr hs cw hp hj hpt (fun w1 hw => lt_beg h.1 hw hp hj) (lt_tot h.1), fun v h1 hp1 => ?_⟩
        obtain ⟨w1, ok1, kn1, -, rfl, rfl⟩ := hp1
        refine ⟨hO_mk, ⟨_, rfl⟩, _, c_Mo_begin_ok hM cm (by omega) (by omega) hpt (relW_lt h.1), fun v2 h2 hp2 => ?_⟩
        obtain ⟨mw1, mc1, kn2, -, rfl, rfl⟩ := hp2
        exact ⟨by rw [eq_total h.1 ok1, eq_begin h.1 ok1 kn2 hp hj, kn2.2.1], sA_mk (relA_m (relA_w h ok1 kn1) kn2)⟩
set_option maxHeartbeats 4000000 in
theorem j_pair {E : ab_E} {l : Launch} {a e f x : Int32} : ∀ h, sA h → JN E l y_H_pair y_Mo_pair b_H_pair b_Mo_pair 5 5 .long 6 138 4 91 Int64 Value.long [.int a, .int e, .int f, .int x] h := by
  rintro h ⟨r, s, w, c, b, d, k, t, ms, mk, mp, mw, mc, md, mt, me, rfl, h⟩
  obtain ⟨q1, q2, q3, q4, q5, q6⟩ := relA_q h
  obtain ⟨⟨hr, hH, hs, hS, hR⟩, ⟨-, hK, hk, -⟩, hM, hQ, hz, cw, ccc, cb, ct, cm, cd⟩ := id h
  rcases i_cases a (q := r.2.2) (by omega) with ha | ⟨p, hp, rfl⟩
  · exact jn_same h (c_H_pair_p ha) (c_Mo_pair_p (by rw [q4]; exact ha))
  · rcases Nat.lt_or_ge (p + 1) r.2.2 with hp1 | hp1
    · rcases i_cases e (q := s.2.2) (by omega) with he | ⟨j, hj, rfl⟩
      · exact jn_same h (c_H_pair_s q3 hp1 he) (c_Mo_pair_s (by omega) (by omega) (by rw [q2]; exact he))
      · rcases i_cases f (q := s.2.2) (by omega) with hf | ⟨z, hz4, rfl⟩
        · exact jn_same h (c_H_pair_t q3 hp1 q1 hj hf) (c_Mo_pair_t (by omega) (by omega) (by omega) (by omega) (by rw [q2]; exact hf))
        · rcases i_part x with hx | ⟨pt, hpt, rfl⟩
          · exact jn_same h (c_H_pair_x q3 hp1 q1 hj hz4 hx) (c_Mo_pair_x (by omega) (by omega) (by omega) (by omega) (by omega) hx)
          ·
            refine ⟨_, c_H_pair_ok hr hs cw hp1 hj hz4 hpt (fun w1 hw => lt_mov h.1 hw hp1 hj hz4) (lt_tot h.1), fun v h1 hpp1 => ?_⟩
            obtain ⟨w1, ok1, kn1, -, rfl, rfl⟩ := hpp1
            refine ⟨hO_mk, ⟨_, rfl⟩, _, c_Mo_pair_ok hM cm (by omega) (by omega) (by omega) hpt (relW_lt h.1), fun v2 h2 hp2 => ?_⟩
            obtain ⟨mw1, mc1, kn2, -, rfl, rfl⟩ := hp2
            exact ⟨by rw [eq_total h.1 ok1, eq_pair h.1 ok1 kn2 hp1 hj hz4, kn2.2.1], sA_mk (relA_m (relA_w h ok1 kn1) kn2)⟩
    · exact jn_same h (c_H_pair_l q3 (by omega)) (c_Mo_pair_l (by omega) (by omega))
set_option maxHeartbeats 4000000 in
theorem j_top {E : ab_E} {l : Launch} {a : Int32} : ∀ h, sA h → JN E l y_H_top y_Mo_top b_H_top b_Mo_top 4 4 .int 6 140 4 91 Int32 Value.int [.int a] h := by
  rintro h ⟨r, s, w, c, b, d, k, t, ms, mk, mp, mw, mc, md, mt, me, rfl, h⟩
  obtain ⟨q1, q2, q3, q4, q5, q6⟩ := relA_q h
  obtain ⟨⟨hr, hH, hs, hS, hR⟩, ⟨-, hK, hk, -⟩, hM, hQ, hz, cw, ccc, cb, ct, cm, cd⟩ := id h
  rcases i_cases a (q := r.2.2) (by omega) with ha | ⟨p, hp, rfl⟩
  · exact jn_same h (c_H_top_p ha) (c_Mo_top_p (by rw [q4]; exact ha))
  · refine ⟨_, c_H_top_ok hr hs cw hp (lt_tot h.1) (fun w1 hw y0 hy0 => lt_over h.1 hw hp hy0), fun v h1 hp1 => ?_⟩
    obtain ⟨w1, ok1, kn1, -, rfl, rfl⟩ := hp1
    have hT := eq_total h.1 ok1
    refine ⟨hO_mk, ⟨_, rfl⟩, ?_⟩
    rcases Nat.eq_zero_or_pos s.2.2 with h0 | h0
    · have hT0 : sumR (wtc ms mp) 0 (FB mp.1) = 0 := by
        rw [← hT, h0]
        split <;> rfl
      refine ⟨_, c_Mo_top_z hM cm (by omega) hT0, fun v2 h2 hp2 => ?_⟩
      obtain ⟨mw1, mc1, kn2, -, rfl, rfl⟩ := hp2
      exact ⟨by rw [hT, hT0, if_pos rfl], sA_mk (relA_m (relA_w h ok1 kn1) kn2)⟩
    · refine ⟨_, c_Mo_top_ok hM cm (by omega) (by omega) (relW_lt h.1), fun v2 h2 hp2 => ?_⟩
      obtain ⟨mw1, mc1, kn2, -, rfl, rfl⟩ := hp2
      refine ⟨?_, sA_mk (relA_m (relA_w h ok1 kn1) kn2)⟩
      rw [hT, kn2.2.1, q2, topR_congr (g := fun y0 => sumR (fun y => w1.2.2.2.2.1 y y0 * lonR id s r.2.2 w1.1 w1.2.2.1 (p - y) y y0) (p - 2) (p + 1 - (p - 2))) (s.2.2 - 1) (fun y hy => (eq_share h.1 ok1 kn2 hp (by omega)).symm)]
theorem lst_con {E : ab_E} {l : Launch} {r : hR} {s : hS} {w c : hW} {b : hB} {d : hD} {k : hK} {t : hT} {ms mk : hA} {mp : hP} {mc : hC} {md : Nat × (Nat → Int32)} {Z : List ab_C} (h : relA r s w c b d k t ms mk mp mc md) : ab_Con E l y_Bw_list b_Bw_list 3 (some (.object "HiddenRows$WayList")) 5 129 [.ref 92] (hc r s w c b d k t ++ Z) 0 0 (fun v h1 => ∃ (w1 : hW) (f : Nat → hL), (kW id r s w1 ∧ Qb r ms mp f) ∧ v = some (.ref 94) ∧ h1 = hc r s w1 c (f, 1) d k t ++ Z) := by
  obtain ⟨⟨hr, hH, hs, hS, hR⟩, ⟨-, hK, hk, -⟩, hM, hQ, hz, cw, ccc, cb, ct, cm, cd⟩ := id h
  rcases cb with hb | ⟨hb, hq⟩
  · rcases Nat.eq_zero_or_pos r.2.2 with h0 | h0
    · exact con_mono (c_Bw_list_0 hr hs cw hb h0) (fun v h1 hp => by
        obtain ⟨w1, ok1, kn1, -, rfl, rfl⟩ := hp
        exact ⟨w1, _, ⟨Or.inr ⟨kn1, ok1⟩, Qb_0 h0⟩, rfl, rfl⟩)
    · exact con_mono (c_Bw_list_p (N := fun _ p st F => NL r s p st F) (Q := fun _ F => Qb r ms mp F) hr hs cw hb h0 (fun w1 p st f hw hp hst hN => NL_step hr hs hw hp hst hN) (fun _ p f hN => NL_down hN) (fun w1 f hw hN => by
        obtain ⟨J, j0, j1, j2⟩ := NL_whole hr hs h0 hN
        exact ⟨J, j0, j1, fun L hL => Qb_of h.1 h0 (j2 L hL)⟩) (fun w1 hw => NL_beg)) (fun v h1 hp => by
        obtain ⟨w1, ok1, kn1, -, f, hQf, rfl, rfl⟩ := hp
        exact ⟨w1, f, ⟨Or.inr ⟨kn1, ok1⟩, hQf⟩, rfl, rfl⟩)
  · exact con_mono (c_Bw_list_k hb) (fun v h1 hp => by
      obtain ⟨rfl, rfl⟩ := hp
      refine ⟨w, b.1, ⟨cw, hq⟩, rfl, ?_⟩
      rw [show (b.1, 1) = b from Prod.ext rfl hb.symm])
theorem relA_kw {r : hR} {s : hS} {w c w1 : hW} {b : hB} {d : hD} {k : hK} {t : hT} {ms mk : hA} {mp : hP} {mc : hC} {md : Nat × (Nat → Int32)} (h : relA r s w c b d k t ms mk mp mc md) (h1 : kW id r s w1) : relA r s w1 c b d k t ms mk mp mc md := by
  obtain ⟨a1, a2, a3, a4, a5, a6, a7, a8, a9, a10, a11⟩ := h
  exact ⟨a1, a2, a3, a4, a5, h1, a7, a8, a9, a10, a11⟩
set_option maxHeartbeats 4000000 in
theorem j_best {E : ab_E} {l : Launch} {a : Int32} : ∀ h, sA h → JN E l y_H_best y_Mo_best b_H_best b_Mo_best 3 2 .long 6 151 4 91 Int64 Value.long [.int a] h := by
  rintro h ⟨r, s, w, c, b, d, k, t, ms, mk, mp, mw, mc, md, mt, me, rfl, h⟩
  obtain ⟨q1, q2, q3, q4, q5, q6⟩ := relA_q h
  obtain ⟨⟨hr, hH, hs, hS, hR⟩, ⟨-, hK, hk, -⟩, hM, hQ, hz, cw, ccc, cb, ct, cm, cd⟩ := id h
  rcases i_cases a (q := 10) (by omega) with ha | ⟨kk, hkk, rfl⟩
  · exact jn_same h (c_H_best_n ha) (c_Mo_best_n ha)
  ·
    refine ⟨_, c_H_best_ok (lst_con h) (fun w1 f hp => (Qb_b hr hp.2).1) hkk, fun v h1 hp1 => ?_⟩
    obtain ⟨w1, f, ⟨kw1, hQf⟩, rfl, rfl⟩ := hp1
    refine ⟨hO_mk, ⟨_, rfl⟩, _, c_Mo_best_ok hM cm hkk, fun v2 h2 hp2 => ?_⟩
    obtain ⟨mw1, mc1, kn2, -, rfl, rfl⟩ := hp2
    exact ⟨best_v h.1 hQf kn2, sA_mk (relA_m (relA_b (relA_kw h kw1) hQf) kn2)⟩
set_option maxHeartbeats 4000000 in
theorem j_bestAt {E : ab_E} {l : Launch} {a e : Int32} : ∀ h, sA h → JN E l y_H_bestAt y_Mo_bestAt b_H_bestAt b_Mo_bestAt 4 3 .int 6 151 4 91 Int32 Value.int [.int a, .int e] h := by
  rintro h ⟨r, s, w, c, b, d, k, t, ms, mk, mp, mw, mc, md, mt, me, rfl, h⟩
  obtain ⟨q1, q2, q3, q4, q5, q6⟩ := relA_q h
  obtain ⟨⟨hr, hH, hs, hS, hR⟩, ⟨-, hK, hk, -⟩, hM, hQ, hz, cw, ccc, cb, ct, cm, cd⟩ := id h
  rcases i_cases a (q := 10) (by omega) with ha | ⟨kk, hkk, rfl⟩
  · exact jn_same h (c_H_bestAt_n ha) (c_Mo_bestAt_n ha)
  · rcases i_cases e (q := r.2.2) (by omega) with he | ⟨p, hp, rfl⟩
    ·
      refine ⟨_, c_H_bestAt_p (lst_con h) (fun w1 f hp => (Qb_b hr hp.2).1) hkk he, fun v h1 hp1 => ?_⟩
      obtain ⟨w1, f, ⟨kw1, hQf⟩, rfl, rfl⟩ := hp1
      refine ⟨hO_mk, ⟨_, rfl⟩, _, c_Mo_bestAt_p hM cm hkk (by rw [q4]; exact he), fun v2 h2 hp2 => ?_⟩
      obtain ⟨mw1, mc1, kn2, -, rfl, rfl⟩ := hp2
      exact ⟨by rw [(eq_best h.1 hQf kn2).1], sA_mk (relA_m (relA_b (relA_kw h kw1) hQf) kn2)⟩
    ·
      refine ⟨_, c_H_bestAt_ok (lst_con h) (fun w1 f hp => (Qb_b hr hp.2).1) (fun w1 f hp => (Qb_b hr hp.2).2) hkk q3 hp, fun v h1 hp1 => ?_⟩
      obtain ⟨w1, f, ⟨kw1, hQf⟩, rfl, rfl⟩ := hp1
      refine ⟨hO_mk, ⟨_, rfl⟩, _, c_Mo_bestAt_ok hM cm hkk (by omega), fun v2 h2 hp2 => ?_⟩
      obtain ⟨mw1, mc1, kn2, -, rfl, rfl⟩ := hp2
      exact ⟨bestAt_v h.1 hQf kn2 (by omega), sA_mk (relA_m (relA_b (relA_kw h kw1) hQf) kn2)⟩
set_option maxHeartbeats 4000000 in
theorem j_drawn {E : ab_E} {l : Launch} {x : Int32} : ∀ h, sA h → JN E l y_H_drawn y_Mo_drawn b_H_drawn b_Mo_drawn 4 11 .long 6 149 4 91 Int64 Value.long [.int x] h := by
  rintro h ⟨r, s, w, c, b, d, k, t, ms, mk, mp, mw, mc, md, mt, me, rfl, h⟩
  obtain ⟨q1, q2, q3, q4, q5, q6⟩ := relA_q h
  obtain ⟨⟨hr, hH, hs, hS, hR⟩, ⟨-, hK, hk, -⟩, hM, hQ, hz, cw, ccc, cb, ct, cm, cd⟩ := id h
  have hTl := relW_lt h.1
  refine ⟨_, c_H_drawn (I := fun w1 p d1 lf => ID r s (wtc ms mp) (drN x % sumR (wtc ms mp) 0 (FB mp.1)) w1 p d1 lf) hr hs cw (fun w1 p d1 lf hw hp hI => ID_step hr hs hw (drw_g h.1 hw (by omega)) (drw_T h.1 (by omega)) hp hI) (fun w1 d1 lf hw hI => by
    have e := ID_end hI
    exact ⟨by have := e.1; omega, e.2.1⟩) (lt_tot h.1) (fun w1 w2 hw1 hw2 hpos => by
    rw [eq_total h.1 hw1] at hpos ⊢
    have hn0 : 0 < r.2.2 := by
      rcases Nat.eq_zero_or_pos r.2.2 with q | q
      · exfalso
        rw [q4, q] at hpos
        exact absurd hpos (Nat.lt_irrefl 0)
      · exact q
    refine ID_beg hn0 ?_
    have e : FB mp.1 = 8 ^ r.2.2 := by rw [q4]; unfold FB; rw [if_neg (by omega)]
    rw [← e]
    exact Nat.mod_lt _ hpos), fun v h1 hp1 => ?_⟩
  obtain ⟨w1, ok1, kn1, -, hor⟩ := hp1
  have hT := eq_total h.1 ok1
  rcases hor with ⟨h0, rfl, rfl⟩ | ⟨hpos, d1, lf1, hI, rfl, rfl⟩
  · rw [hT] at h0
    refine ⟨hO_mk, ⟨_, rfl⟩, _, c_Mo_drawn hM cm hTl, fun v2 h2 hp2 => ?_⟩
    obtain ⟨mw1, mc1, kn2, -, hor2⟩ := hp2
    rcases hor2 with ⟨-, rfl, rfl⟩ | ⟨hne, -⟩
    · exact ⟨rfl, sA_mk (relA_m (relA_w h ok1 kn1) kn2)⟩
    · exact absurd (by rw [kn2.2.1]; exact h0) hne
  · rw [hT] at hpos
    obtain ⟨e1, e2, e3, e4, e5, e6, e7⟩ := ID_end hI
    refine ⟨hO_mk, ⟨_, rfl⟩, _, c_Mo_drawn hM cm hTl, fun v2 h2 hp2 => ?_⟩
    obtain ⟨mw1, mc1, kn2, -, hor2⟩ := hp2
    rcases hor2 with ⟨h0, -⟩ | ⟨hne, c1, g1, g2, g3, rfl, f, hf, rfl⟩
    · exfalso
      rw [kn2.2.1] at h0
      omega
    · rw [kn2.2.1] at g2 g3
      obtain rfl := draw_one e6 e7 g2 g3
      refine ⟨by rw [e5], sA_mk (relA_d (relA_m (relA_w h ok1 kn1) kn2) (Or.inr ⟨e3, rfl, e4, fun p hp => ?_⟩))⟩
      show f p = _
      rw [hf p (by omega), q4]
set_option maxHeartbeats 4000000 in
theorem j_drawnAt {E : ab_E} {l : Launch} {a : Int32} : ∀ h, sA h → JN E l y_H_drawnAt y_Mo_drawnAt b_H_drawnAt b_Mo_drawnAt 2 2 .int 1 22 1 21 Int32 Value.int [.int a] h := by
  rintro h ⟨r, s, w, c, b, d, k, t, ms, mk, mp, mw, mc, md, mt, me, rfl, h⟩
  obtain ⟨q1, q2, q3, q4, q5, q6⟩ := relA_q h
  obtain ⟨⟨hr, hH, hs, hS, hR⟩, ⟨-, hK, hk, -⟩, hM, hQ, hz, cw, ccc, cb, ct, cm, cd⟩ := id h
  rcases cd with ⟨d1, m1⟩ | ⟨d1, m1, d2, d3⟩
  · exact jn_same h (c_H_drawnAt_0 d1) (c_Mo_drawnAt_0 m1)
  · rcases i_cases a (q := r.2.2) (by omega) with ha | ⟨p, hp, rfl⟩
    · exact jn_same h (c_H_drawnAt_p d1 ha) (c_Mo_drawnAt_p m1 (by rw [q4]; exact ha))
    · have ht : d.2.2.2.2.1 < 2 ^ 31 := by
        have e1 : 8 ^ r.2.2 ≤ 8 ^ 6 := Nat.pow_le_pow_right (by omega) q3
        have e2 : 8 ^ 6 < 2 ^ 31 := by decide
        omega
      exact jn_step (c_H_drawnAt_ok d1 q3 hp ht) (c_Mo_drawnAt_ok m1 (by omega) (by omega)) (by rw [d3 p hp, Nat.pow_mul]; rfl) hO_mk (sA_mk h)
set_option maxHeartbeats 4000000 in
theorem j_trees {E : ab_E} {l : Launch} {a : Int32} : ∀ h, sA h → JN E l y_H_trees y_Mo_trees b_H_trees b_Mo_trees 2 2 .long 5 122 3 84 Int64 Value.long [.int a] h := by
  rintro h ⟨r, s, w, c, b, d, k, t, ms, mk, mp, mw, mc, md, mt, me, rfl, h⟩
  obtain ⟨q1, q2, q3, q4, q5, q6⟩ := relA_q h
  obtain ⟨⟨hr, hH, hs, hS, hR⟩, ⟨-, hK, hk, -⟩, hM, hQ, hz, cw, ccc, cb, ct, cm, cd⟩ := id h
  rcases i_cases a (q := k.2.2) (by omega) with ha | ⟨kd, hkd, rfl⟩
  · exact jn_same h (c_H_trees_n ha) (c_Mo_trees_n (by rw [q6]; exact ha))
  ·
    refine ⟨_, c_H_trees_ok hr hK ct hkd, fun v h1 hp1 => ?_⟩
    obtain ⟨su, ct, be, ok1, -, rfl, rfl⟩ := hp1
    refine ⟨hO_mk, ⟨_, rfl⟩, _, c_Mo_trees_ok hQ (by omega), fun v2 h2 hp2 => ?_⟩
    obtain ⟨mq, ok2, rfl, rfl⟩ := hp2
    exact ⟨by rw [(eq_trees h.2.1 ok1 ok2 hkd).1], sA_mk (relA_t h (kT_1 ok1))⟩
set_option maxHeartbeats 4000000 in
theorem j_treeCount {E : ab_E} {l : Launch} {a : Int32} : ∀ h, sA h → JN E l y_H_treeCount y_Mo_treeCount b_H_treeCount b_Mo_treeCount 2 2 .long 5 122 3 84 Int64 Value.long [.int a] h := by
  rintro h ⟨r, s, w, c, b, d, k, t, ms, mk, mp, mw, mc, md, mt, me, rfl, h⟩
  obtain ⟨q1, q2, q3, q4, q5, q6⟩ := relA_q h
  obtain ⟨⟨hr, hH, hs, hS, hR⟩, ⟨-, hK, hk, -⟩, hM, hQ, hz, cw, ccc, cb, ct, cm, cd⟩ := id h
  rcases i_cases a (q := k.2.2) (by omega) with ha | ⟨kd, hkd, rfl⟩
  · exact jn_same h (c_H_treeCount_n ha) (c_Mo_treeCount_n (by rw [q6]; exact ha))
  ·
    refine ⟨_, c_H_treeCount_ok hr hK ct hkd, fun v h1 hp1 => ?_⟩
    obtain ⟨su, ct, be, ok1, -, rfl, rfl⟩ := hp1
    refine ⟨hO_mk, ⟨_, rfl⟩, _, c_Mo_treeCount_ok hQ (by omega), fun v2 h2 hp2 => ?_⟩
    obtain ⟨mq, ok2, rfl, rfl⟩ := hp2
    exact ⟨by rw [(eq_trees h.2.1 ok1 ok2 hkd).2.1], sA_mk (relA_t h (kT_1 ok1))⟩
set_option maxHeartbeats 4000000 in
theorem j_treeBest {E : ab_E} {l : Launch} {a : Int32} : ∀ h, sA h → JN E l y_H_treeBest y_Mo_treeBest b_H_treeBest b_Mo_treeBest 2 4 .long 5 122 4 105 Int64 Value.long [.int a] h := by
  rintro h ⟨r, s, w, c, b, d, k, t, ms, mk, mp, mw, mc, md, mt, me, rfl, h⟩
  obtain ⟨q1, q2, q3, q4, q5, q6⟩ := relA_q h
  obtain ⟨⟨hr, hH, hs, hS, hR⟩, ⟨-, hK, hk, -⟩, hM, hQ, hz, cw, ccc, cb, ct, cm, cd⟩ := id h
  rcases i_cases a (q := k.2.2) (by omega) with ha | ⟨kd, hkd, rfl⟩
  · exact jn_same h (c_H_treeBest_n ha) (c_Mo_treeBest_n (by rw [q6]; exact ha))
  ·
    refine ⟨_, c_H_treeBest_ok hr hK ct hkd (fun su ct be ho => okT_lt hK hr ho hkd), fun v h1 hp1 => ?_⟩
    obtain ⟨su, ct, be, ok1, -, rfl, rfl⟩ := hp1
    refine ⟨hO_mk, ⟨_, rfl⟩, _, c_Mo_treeBest_ok hQ (by omega) (fun mq hq => okF_lt h.2.1 hq hkd), fun v2 h2 hp2 => ?_⟩
    obtain ⟨mq, ok2, rfl, rfl⟩ := hp2
    exact ⟨by rw [(eq_trees h.2.1 ok1 ok2 hkd).1, (eq_trees h.2.1 ok1 ok2 hkd).2.2], sA_mk (relA_t h (kT_1 ok1))⟩
set_option maxHeartbeats 4000000 in
theorem j_treeAt {E : ab_E} {l : Launch} {a e : Int32} : ∀ h, sA h → JN E l y_H_treeAt y_Mo_treeAt b_H_treeAt b_Mo_treeAt 3 11 .int 5 125 4 105 Int32 Value.int [.int a, .int e] h := by
  rintro h ⟨r, s, w, c, b, d, k, t, ms, mk, mp, mw, mc, md, mt, me, rfl, h⟩
  obtain ⟨q1, q2, q3, q4, q5, q6⟩ := relA_q h
  obtain ⟨⟨hr, hH, hs, hS, hR⟩, ⟨-, hK, hk, -⟩, hM, hQ, hz, cw, ccc, cb, ct, cm, cd⟩ := id h
  rcases i_cases a (q := k.2.2) (by omega) with ha | ⟨kd, hkd, rfl⟩
  · exact jn_same h (c_H_treeAt_n ha) (c_Mo_treeAt_n (by rw [q6]; exact ha))
  · by_cases h0 : ∃ su ct be, okT k r su ct be ∧ (if r.2.2 = 0 then 0 else su kd (0 * 6 + (r.2.2 - 1))) = 0
    · obtain ⟨su0, ct0, be0, ok0, h0⟩ := h0
      have hz1 : ∀ su ct be, okT k r su ct be → (if r.2.2 = 0 then 0 else su kd (0 * 6 + (r.2.2 - 1))) = 0 := fun su ct be ho => by rw [okT_one ho ok0 hkd]; exact h0
      refine ⟨_, c_H_treeAt_0 hr hK ct hkd (fun su ct be ho => okT_lt hK hr ho hkd) hz1, fun v h1 hp1 => ?_⟩
      obtain ⟨su, ct, be, ok1, -, rfl, rfl⟩ := hp1
      refine ⟨hO_mk, ⟨_, rfl⟩, _, c_Mo_treeAt_0 hQ (by omega) (fun mq hq => okF_lt h.2.1 hq hkd) (fun mq hq => by rw [← (eq_trees h.2.1 ok0 hq hkd).1]; exact h0), fun v2 h2 hp2 => ?_⟩
      obtain ⟨mq, ok2, rfl, rfl⟩ := hp2
      exact ⟨rfl, sA_mk (relA_t h (kT_1 ok1))⟩
    · have hp1 : ∀ su ct be, okT k r su ct be → 0 < (if r.2.2 = 0 then 0 else su kd (0 * 6 + (r.2.2 - 1))) := fun su ct be ho => Nat.pos_of_ne_zero (fun q => h0 ⟨su, ct, be, ho, q⟩)
      have hp2 : ∀ mq : hF, okF mk mp mq → 0 < allT mp mq.1 kd := fun mq hq => by
        have := hp1 _ _ _ (okF_okT h.2.1 hq)
        rw [(eq_trees h.2.1 (okF_okT h.2.1 hq) hq hkd).1] at this
        exact this
      rcases Nat.eq_zero_or_pos r.2.2 with hn0 | hn0
      · exfalso
        refine h0 ⟨fun _ _ => 0, fun _ _ => 0, fun _ _ => 0, fun kk a b _ _ hb _ => absurd hb (by omega), by rw [if_pos hn0]⟩
      · have hbe : ∀ su ct be, okT k r su ct be → 0 < be kd (0 * 6 + (r.2.2 - 1)) := fun su ct be ho => by
          have := hp1 su ct be ho
          rw [if_neg (by omega)] at this
          exact be_pos ho _ kd 0 (r.2.2 - 1) rfl hkd (by omega) (by omega) this
        rcases i_cases e (q := 2 * r.2.2 - 1) (by omega) with he | ⟨num, hnum, rfl⟩
        ·
          refine ⟨_, c_H_treeAt_x hr hK ct hkd (fun su ct be ho => okT_lt hK hr ho hkd) hp1 hn0 he, fun v h1 hpp => ?_⟩
          obtain ⟨su, ct, be, ok1, -, rfl, rfl⟩ := hpp
          refine ⟨hO_mk, ⟨_, rfl⟩, _, c_Mo_treeAt_x hQ (by omega) (fun mq hq => okF_lt h.2.1 hq hkd) hp2 (by omega) (by rw [q4]; exact he), fun v2 h2 hpq => ?_⟩
          obtain ⟨mq, ok2, rfl, rfl⟩ := hpq
          exact ⟨rfl, sA_mk (relA_t h (kT_1 ok1))⟩
        ·
          refine ⟨_, c_H_treeAt_ok hr hK ct hkd (fun su ct be ho => okT_lt hK hr ho hkd) hp1 hn0 hnum hbe, fun v h1 hpp => ?_⟩
          obtain ⟨su, ct, be, ok1, -, val, ht1, rfl, wk, wp, wt, rfl⟩ := hpp
          refine ⟨hO_mk, ⟨_, rfl⟩, _, c_Mo_treeAt_ok hQ (by omega) (fun mq hq => okF_lt h.2.1 hq hkd) hp2 (by omega) (by omega) (fun mq hq => by have := hbe _ _ _ (okF_okT h.2.1 hq); rw [q4]; exact this), fun v2 h2 hpq => ?_⟩
          obtain ⟨mq, ok2, val2, ht2, rfl, me1, rfl⟩ := hpq
          exact ⟨by rw [eq_tells h.2.1 ok1 ok2 hkd hn0 ht1 ht2], sA_mk (relA_t h (kT_1 ok1))⟩
set_option maxHeartbeats 4000000 in
theorem j_span {E : ab_E} {l : Launch} {a e f g x : Int32} : ∀ h, sA h → JN E l y_H_span y_Mo_span b_H_span b_Mo_span 6 10 .long 5 128 4 105 Int64 Value.long [.int a, .int e, .int f, .int g, .int x] h := by
  rintro h ⟨r, s, w, c, b, d, k, t, ms, mk, mp, mw, mc, md, mt, me, rfl, h⟩
  obtain ⟨q1, q2, q3, q4, q5, q6⟩ := relA_q h
  obtain ⟨⟨hr, hH, hs, hS, hR⟩, ⟨-, hK, hk, -⟩, hM, hQ, hz, cw, ccc, cb, ct, cm, cd⟩ := id h
  rcases i_cases a (q := k.2.2) (by omega) with ha | ⟨kd, hkd, rfl⟩
  · exact jn_same h (c_H_span_k ha) (c_Mo_span_k (by rw [q6]; exact ha))
  · rcases i_cases e (q := k.2.2) (by omega) with he | ⟨wn, hwn, rfl⟩
    · exact jn_same h (c_H_span_w hK hkd he) (c_Mo_span_w hQ (by omega) (by rw [q6]; exact he))
    · rcases i_cases f (q := r.2.2) (by omega) with hf | ⟨i, hi, rfl⟩
      · exact jn_same h (c_H_span_i hK hkd hwn hf) (c_Mo_span_i hQ (by omega) (by omega) (by rw [q4]; exact hf))
      · rcases i_cases g (q := r.2.2) (by omega) with hg | ⟨j, hj, rfl⟩
        · exact jn_same h (c_H_span_j hr hK hkd hwn hi hg) (c_Mo_span_j hQ (by omega) (by omega) (by omega) (by rw [q4]; exact hg))
        · rcases Nat.lt_or_ge j i with hij | hij
          · exact jn_same h (c_H_span_o hr hK hkd hwn hi hj hij) (c_Mo_span_o hQ (by omega) (by omega) (by omega) (by omega) hij)
          · rcases i_part x with hx | ⟨pt, hpt, rfl⟩
            · exact jn_same h (c_H_span_x hr hK hkd hwn hi hj hij hx) (c_Mo_span_x hQ (by omega) (by omega) (by omega) (by omega) hij hx)
            · refine ⟨_, c_H_span_ok hr hK ct hkd hwn hi hj hij hpt (fun su ct be ho => okT_lt hK hr ho hkd) (span_hA hK hr hkd hij hj), fun v h1 hp1 => ?_⟩
              obtain ⟨su, ct, be, ha, ok1, -, hH1, rfl, rfl⟩ := hp1
              refine ⟨hO_mk, ⟨_, rfl⟩, _, c_Mo_span_ok hQ (by omega) (by omega) (by omega) (by omega) hij hpt (fun mq hq => okF_lt h.2.1 hq hkd) (span_hd h.2.1 hkd hwn (by omega)), fun v2 h2 hp2 => ?_⟩
              obtain ⟨mq, ok2, hor⟩ := hp2
              have e1 := (eq_trees h.2.1 ok1 ok2 hkd).1
              rcases hor with ⟨h0, rfl, rfl⟩ | ⟨hne, mq1, mq2, f1, f2, rfl, rfl⟩
              · refine ⟨?_, sA_mk (relA_t h (kT_1 ok1))⟩
                rw [e1, h0]
                rfl
              · refine ⟨?_, sA_mk (relA_t h (kT_1 ok1))⟩
                rw [e1, eq_span h.2.1 hkd hwn hij hj ok1 hH1 f1 f2]
