section LAW
variable {E : ab_E} {l : Launch} {G : Heap → List Loc → Nat → Nat → JFrame → Prop} {m : MethodId} {cc : ByteArray} {nL : Nat} {own : String} {ini : Bool} {ret : Option FieldType} {fr lo mc ms : Nat} {Post : Option (Option Value → List ab_C → Prop)} {ce sl pc : Nat} {lv : List (Nat × Value)} {st : List Value} {h : List ab_C}
theorem a_tabOut (X : ab_X E l G m cc nL own ini ret fr lo mc ms Post) {dflt lw hi : Int} {offs : Array Int} {len : Nat} {x : Int32} (tgt : Nat) (d : decode cc pc = .ok (.tableswitch dflt lw hi offs, len)) (h0 : x.toInt < lw ∨ hi < x.toInt) (ht : (pc : Int) + dflt = (tgt : Int)) (kk : ab_R E G m nL ce sl tgt lv st h) : ab_R E G m nL ce sl pc lv (.int x :: st) h := by
  obtain ⟨p, e, s, args, below, meth, c, R, Q, rfl, hQ, hx, hb, hml, hown, hts, hr, hlk, hK, r1, r2, r3, r4, hini⟩ := X
  intro H locs ls hH hL hls
  exact lv_tableOut hx hb d h0 ht (kk H locs ls hH hL hls)
theorem a_tabIn (X : ab_X E l G m cc nL own ini ret fr lo mc ms Post) {dflt lw hi off : Int} {offs : Array Int} {len : Nat} {x : Int32} (tgt : Nat) (d : decode cc pc = .ok (.tableswitch dflt lw hi offs, len)) (h1 : ¬ x.toInt < lw) (h2 : ¬ hi < x.toInt) (ho : offs[(x.toInt - lw).toNat]? = some off) (ht : (pc : Int) + off = (tgt : Int)) (kk : ab_R E G m nL ce sl tgt lv st h) : ab_R E G m nL ce sl pc lv (.int x :: st) h := by
  obtain ⟨p, e, s, args, below, meth, c, R, Q, rfl, hQ, hx, hb, hml, hown, hts, hr, hlk, hK, r1, r2, r3, r4, hini⟩ := X
  intro H locs ls hH hL hls
  exact lv_tableIn hx hb d h1 h2 ho ht (kk H locs ls hH hL hls)
end LAW
theorem lg_self (x : Int64) : lg_cmp x x = 0 := by
  unfold lg_cmp
  rw [if_neg (show ¬ x > x from Int64.lt_irrefl), if_pos rfl]
theorem sA_hO {h : List ab_C} (hs : sA h) : hO h := by
  obtain ⟨r, s, w, c, b, d, k, t, ms, mk, mp, mw, mc, md, mt, me, rfl, -⟩ := hs
  exact hO_mk
abbrev LX (E : ab_E) (l : Launch) (G : Heap → List Loc → Nat → Nat → JFrame → Prop) (m : MethodId) : Prop := ab_X E l G m code 4 "HiddenRowsLaw" false ret 9 352 600000 7302250 none
set_option maxHeartbeats 4000000 in
set_option maxRecDepth 20000 in
theorem law_state {E : ab_E} {l : Launch} {G : Heap → List Loc → Nat → Nat → JFrame → Prop} {m : MethodId} (X : LX E l G m) {i : Nat} {h : List ab_C} (hL : E.2.2.2.2.2.1 ≤ 3072) (hi : i + 6 ≤ E.2.2.2.2.2.1) (hs : sA h) (kk : ∀ h2, sA h2 → ab_R E G m 4 223 2618 886 [(0, .ref 0), (1, .ref 1), (2, .ref 204), (3, .int (nI i))] [] h2) : ab_R E G m 4 223 2618 144 [(0, .ref 0), (1, .ref 1), (2, .ref 204), (3, .int (nI i))] [] h := by
  obtain ⟨⟨f0, hf0⟩, -⟩ := sA_hO hs
  obtain ⟨P1, con1, hP1⟩ := j_state (E := E) (l := l)  h hs
  refine a_aload_n X 1 d_La_law_144 rfl rfl ?_
  refine a_callV X (a := 0) (As := []) hf0 rfl fb_H_state lk_La_13 im_H_state se_H_state con1 rfl rfl (Nat.le_of_ble_eq_true rfl) (by decide) (by decide) (Nat.le_of_ble_eq_true rfl) (Nat.le_of_ble_eq_true rfl) d_La_law_145 (fun v h1 hp => ?_)
  obtain ⟨⟨-, ⟨f1, hf1⟩⟩, ⟨u, rfl⟩, P2, con2, hP2⟩ := hP1 v h1 hp
  refine a_aload_n X 2 d_La_law_148 rfl rfl ?_
  refine a_callV X (a := 203) (As := []) hf1 rfl fb_Mo_state lk_La_17 im_Mo_state se_Mo_state con2 rfl rfl (Nat.le_of_ble_eq_true rfl) (by decide) (by decide) (Nat.le_of_ble_eq_true rfl) (Nat.le_of_ble_eq_true rfl) d_La_law_149 (fun v2 h2 hp2 => ?_)
  obtain ⟨rfl, hs2⟩ := hP2 v2 h2 hp2
  exact a_icmp_eq X 886 d_La_law_152 (by decide) (fun _ => kk h2 hs2) (fun c => absurd rfl c)
set_option maxHeartbeats 4000000 in
set_option maxRecDepth 20000 in
theorem law_weight {E : ab_E} {l : Launch} {G : Heap → List Loc → Nat → Nat → JFrame → Prop} {m : MethodId} (X : LX E l G m) {i : Nat} {h : List ab_C} (hL : E.2.2.2.2.2.1 ≤ 3072) (hi : i + 6 ≤ E.2.2.2.2.2.1) (hs : sA h) (kk : ∀ h2, sA h2 → ab_R E G m 4 223 2618 886 [(0, .ref 0), (1, .ref 1), (2, .ref 204), (3, .int (nI i))] [] h2) : ab_R E G m 4 223 2618 157 [(0, .ref 0), (1, .ref 1), (2, .ref 204), (3, .int (nI i))] [] h := by
  obtain ⟨⟨f0, hf0⟩, -⟩ := sA_hO hs
  obtain ⟨P1, con1, hP1⟩ := j_weight (E := E) (l := l) (a := E.2.2.2.2.2.2 (i + 1)) (e := E.2.2.2.2.2.2 (i + 2)) (x := E.2.2.2.2.2.2 (i + 3)) h hs
  refine a_aload_n X 1 d_La_law_157 rfl rfl ?_
  refine a_aload_n X 0 d_La_law_158 rfl rfl ?_
  refine a_iload_n X 3 d_La_law_159 rfl rfl ?_
  refine a_iconst X (v := nI 1) d_La_law_160 (by decide) ?_
  refine a_iadd X d_La_law_161 ?_
  refine ab_topi (nI_add _ _) ?_
  refine a_sld X d_La_law_162 (ab_ix_nI (j := i + 1) (by omega) (by omega)) ?_
  refine a_aload_n X 0 d_La_law_163 rfl rfl ?_
  refine a_iload_n X 3 d_La_law_164 rfl rfl ?_
  refine a_iconst X (v := nI 2) d_La_law_165 (by decide) ?_
  refine a_iadd X d_La_law_166 ?_
  refine ab_topi (nI_add _ _) ?_
  refine a_sld X d_La_law_167 (ab_ix_nI (j := i + 2) (by omega) (by omega)) ?_
  refine a_aload_n X 0 d_La_law_168 rfl rfl ?_
  refine a_iload_n X 3 d_La_law_169 rfl rfl ?_
  refine a_iconst X (v := nI 3) d_La_law_170 (by decide) ?_
  refine a_iadd X d_La_law_171 ?_
  refine ab_topi (nI_add _ _) ?_
  refine a_sld X d_La_law_172 (ab_ix_nI (j := i + 3) (by omega) (by omega)) ?_
  refine a_callV X (a := 0) (As := [.int (E.2.2.2.2.2.2 (i + 1)), .int (E.2.2.2.2.2.2 (i + 2)), .int (E.2.2.2.2.2.2 (i + 3))]) hf0 rfl fb_H_weight lk_La_18 im_H_weight se_H_weight con1 rfl rfl (Nat.le_of_ble_eq_true rfl) (by decide) (by decide) (Nat.le_of_ble_eq_true rfl) (Nat.le_of_ble_eq_true rfl) d_La_law_173 (fun v h1 hp => ?_)
  obtain ⟨⟨-, ⟨f1, hf1⟩⟩, ⟨u, rfl⟩, P2, con2, hP2⟩ := hP1 v h1 hp
  refine a_aload_n X 2 d_La_law_176 rfl rfl ?_
  refine a_aload_n X 0 d_La_law_177 rfl rfl ?_
  refine a_iload_n X 3 d_La_law_178 rfl rfl ?_
  refine a_iconst X (v := nI 1) d_La_law_179 (by decide) ?_
  refine a_iadd X d_La_law_180 ?_
  refine ab_topi (nI_add _ _) ?_
  refine a_sld X d_La_law_181 (ab_ix_nI (j := i + 1) (by omega) (by omega)) ?_
  refine a_aload_n X 0 d_La_law_182 rfl rfl ?_
  refine a_iload_n X 3 d_La_law_183 rfl rfl ?_
  refine a_iconst X (v := nI 2) d_La_law_184 (by decide) ?_
  refine a_iadd X d_La_law_185 ?_
  refine ab_topi (nI_add _ _) ?_
  refine a_sld X d_La_law_186 (ab_ix_nI (j := i + 2) (by omega) (by omega)) ?_
  refine a_aload_n X 0 d_La_law_187 rfl rfl ?_
  refine a_iload_n X 3 d_La_law_188 rfl rfl ?_
  refine a_iconst X (v := nI 3) d_La_law_189 (by decide) ?_
  refine a_iadd X d_La_law_190 ?_
  refine ab_topi (nI_add _ _) ?_
  refine a_sld X d_La_law_191 (ab_ix_nI (j := i + 3) (by omega) (by omega)) ?_
  refine a_callV X (a := 203) (As := [.int (E.2.2.2.2.2.2 (i + 1)), .int (E.2.2.2.2.2.2 (i + 2)), .int (E.2.2.2.2.2.2 (i + 3))]) hf1 rfl fb_Mo_weight lk_La_22 im_Mo_weight se_Mo_weight con2 rfl rfl (Nat.le_of_ble_eq_true rfl) (by decide) (by decide) (Nat.le_of_ble_eq_true rfl) (Nat.le_of_ble_eq_true rfl) d_La_law_192 (fun v2 h2 hp2 => ?_)
  obtain ⟨rfl, hs2⟩ := hP2 v2 h2 hp2
  exact a_icmp_eq X 886 d_La_law_195 (by decide) (fun _ => kk h2 hs2) (fun c => absurd rfl c)
set_option maxHeartbeats 4000000 in
set_option maxRecDepth 20000 in
theorem law_move {E : ab_E} {l : Launch} {G : Heap → List Loc → Nat → Nat → JFrame → Prop} {m : MethodId} (X : LX E l G m) {i : Nat} {h : List ab_C} (hL : E.2.2.2.2.2.1 ≤ 3072) (hi : i + 6 ≤ E.2.2.2.2.2.1) (hs : sA h) (kk : ∀ h2, sA h2 → ab_R E G m 4 223 2618 886 [(0, .ref 0), (1, .ref 1), (2, .ref 204), (3, .int (nI i))] [] h2) : ab_R E G m 4 223 2618 200 [(0, .ref 0), (1, .ref 1), (2, .ref 204), (3, .int (nI i))] [] h := by
  obtain ⟨⟨f0, hf0⟩, -⟩ := sA_hO hs
  obtain ⟨P1, con1, hP1⟩ := j_move (E := E) (l := l) (a := E.2.2.2.2.2.2 (i + 1)) (e := E.2.2.2.2.2.2 (i + 2)) (x := E.2.2.2.2.2.2 (i + 3)) h hs
  refine a_aload_n X 1 d_La_law_200 rfl rfl ?_
  refine a_aload_n X 0 d_La_law_201 rfl rfl ?_
  refine a_iload_n X 3 d_La_law_202 rfl rfl ?_
  refine a_iconst X (v := nI 1) d_La_law_203 (by decide) ?_
  refine a_iadd X d_La_law_204 ?_
  refine ab_topi (nI_add _ _) ?_
  refine a_sld X d_La_law_205 (ab_ix_nI (j := i + 1) (by omega) (by omega)) ?_
  refine a_aload_n X 0 d_La_law_206 rfl rfl ?_
  refine a_iload_n X 3 d_La_law_207 rfl rfl ?_
  refine a_iconst X (v := nI 2) d_La_law_208 (by decide) ?_
  refine a_iadd X d_La_law_209 ?_
  refine ab_topi (nI_add _ _) ?_
  refine a_sld X d_La_law_210 (ab_ix_nI (j := i + 2) (by omega) (by omega)) ?_
  refine a_aload_n X 0 d_La_law_211 rfl rfl ?_
  refine a_iload_n X 3 d_La_law_212 rfl rfl ?_
  refine a_iconst X (v := nI 3) d_La_law_213 (by decide) ?_
  refine a_iadd X d_La_law_214 ?_
  refine ab_topi (nI_add _ _) ?_
  refine a_sld X d_La_law_215 (ab_ix_nI (j := i + 3) (by omega) (by omega)) ?_
  refine a_callV X (a := 0) (As := [.int (E.2.2.2.2.2.2 (i + 1)), .int (E.2.2.2.2.2.2 (i + 2)), .int (E.2.2.2.2.2.2 (i + 3))]) hf0 rfl fb_H_move lk_La_23 im_H_move se_H_move con1 rfl rfl (Nat.le_of_ble_eq_true rfl) (by decide) (by decide) (Nat.le_of_ble_eq_true rfl) (Nat.le_of_ble_eq_true rfl) d_La_law_216 (fun v h1 hp => ?_)
  obtain ⟨⟨-, ⟨f1, hf1⟩⟩, ⟨u, rfl⟩, P2, con2, hP2⟩ := hP1 v h1 hp
  refine a_aload_n X 2 d_La_law_219 rfl rfl ?_
  refine a_aload_n X 0 d_La_law_220 rfl rfl ?_
  refine a_iload_n X 3 d_La_law_221 rfl rfl ?_
  refine a_iconst X (v := nI 1) d_La_law_222 (by decide) ?_
  refine a_iadd X d_La_law_223 ?_
  refine ab_topi (nI_add _ _) ?_
  refine a_sld X d_La_law_224 (ab_ix_nI (j := i + 1) (by omega) (by omega)) ?_
  refine a_aload_n X 0 d_La_law_225 rfl rfl ?_
  refine a_iload_n X 3 d_La_law_226 rfl rfl ?_
  refine a_iconst X (v := nI 2) d_La_law_227 (by decide) ?_
  refine a_iadd X d_La_law_228 ?_
  refine ab_topi (nI_add _ _) ?_
  refine a_sld X d_La_law_229 (ab_ix_nI (j := i + 2) (by omega) (by omega)) ?_
  refine a_aload_n X 0 d_La_law_230 rfl rfl ?_
  refine a_iload_n X 3 d_La_law_231 rfl rfl ?_
  refine a_iconst X (v := nI 3) d_La_law_232 (by decide) ?_
  refine a_iadd X d_La_law_233 ?_
  refine ab_topi (nI_add _ _) ?_
  refine a_sld X d_La_law_234 (ab_ix_nI (j := i + 3) (by omega) (by omega)) ?_
  refine a_callV X (a := 203) (As := [.int (E.2.2.2.2.2.2 (i + 1)), .int (E.2.2.2.2.2.2 (i + 2)), .int (E.2.2.2.2.2.2 (i + 3))]) hf1 rfl fb_Mo_move lk_La_26 im_Mo_move se_Mo_move con2 rfl rfl (Nat.le_of_ble_eq_true rfl) (by decide) (by decide) (Nat.le_of_ble_eq_true rfl) (Nat.le_of_ble_eq_true rfl) d_La_law_235 (fun v2 h2 hp2 => ?_)
  obtain ⟨rfl, hs2⟩ := hP2 v2 h2 hp2
  exact a_icmp_eq X 886 d_La_law_238 (by decide) (fun _ => kk h2 hs2) (fun c => absurd rfl c)
set_option maxHeartbeats 4000000 in
set_option maxRecDepth 20000 in
theorem law_kind {E : ab_E} {l : Launch} {G : Heap → List Loc → Nat → Nat → JFrame → Prop} {m : MethodId} (X : LX E l G m) {i : Nat} {h : List ab_C} (hL : E.2.2.2.2.2.1 ≤ 3072) (hi : i + 6 ≤ E.2.2.2.2.2.1) (hs : sA h) (kk : ∀ h2, sA h2 → ab_R E G m 4 223 2618 886 [(0, .ref 0), (1, .ref 1), (2, .ref 204), (3, .int (nI i))] [] h2) : ab_R E G m 4 223 2618 243 [(0, .ref 0), (1, .ref 1), (2, .ref 204), (3, .int (nI i))] [] h := by
  obtain ⟨⟨f0, hf0⟩, -⟩ := sA_hO hs
  obtain ⟨P1, con1, hP1⟩ := j_kind (E := E) (l := l)  h hs
  refine a_aload_n X 1 d_La_law_243 rfl rfl ?_
  refine a_callV X (a := 0) (As := []) hf0 rfl fb_H_kind lk_La_27 im_H_kind se_H_kind con1 rfl rfl (Nat.le_of_ble_eq_true rfl) (by decide) (by decide) (Nat.le_of_ble_eq_true rfl) (Nat.le_of_ble_eq_true rfl) d_La_law_244 (fun v h1 hp => ?_)
  obtain ⟨⟨-, ⟨f1, hf1⟩⟩, ⟨u, rfl⟩, P2, con2, hP2⟩ := hP1 v h1 hp
  refine a_aload_n X 2 d_La_law_247 rfl rfl ?_
  refine a_callV X (a := 203) (As := []) hf1 rfl fb_Mo_kind lk_La_30 im_Mo_kind se_Mo_kind con2 rfl rfl (Nat.le_of_ble_eq_true rfl) (by decide) (by decide) (Nat.le_of_ble_eq_true rfl) (Nat.le_of_ble_eq_true rfl) d_La_law_248 (fun v2 h2 hp2 => ?_)
  obtain ⟨rfl, hs2⟩ := hP2 v2 h2 hp2
  exact a_icmp_eq X 886 d_La_law_251 (by decide) (fun _ => kk h2 hs2) (fun c => absurd rfl c)
set_option maxHeartbeats 4000000 in
set_option maxRecDepth 20000 in
theorem law_rule {E : ab_E} {l : Launch} {G : Heap → List Loc → Nat → Nat → JFrame → Prop} {m : MethodId} (X : LX E l G m) {i : Nat} {h : List ab_C} (hL : E.2.2.2.2.2.1 ≤ 3072) (hi : i + 6 ≤ E.2.2.2.2.2.1) (hs : sA h) (kk : ∀ h2, sA h2 → ab_R E G m 4 223 2618 886 [(0, .ref 0), (1, .ref 1), (2, .ref 204), (3, .int (nI i))] [] h2) : ab_R E G m 4 223 2618 256 [(0, .ref 0), (1, .ref 1), (2, .ref 204), (3, .int (nI i))] [] h := by
  obtain ⟨⟨f0, hf0⟩, -⟩ := sA_hO hs
  obtain ⟨P1, con1, hP1⟩ := j_rule (E := E) (l := l) (a := E.2.2.2.2.2.2 (i + 1)) (e := E.2.2.2.2.2.2 (i + 2)) (f := E.2.2.2.2.2.2 (i + 3)) (x := E.2.2.2.2.2.2 (i + 4)) h hs
  refine a_aload_n X 1 d_La_law_256 rfl rfl ?_
  refine a_aload_n X 0 d_La_law_257 rfl rfl ?_
  refine a_iload_n X 3 d_La_law_258 rfl rfl ?_
  refine a_iconst X (v := nI 1) d_La_law_259 (by decide) ?_
  refine a_iadd X d_La_law_260 ?_
  refine ab_topi (nI_add _ _) ?_
  refine a_sld X d_La_law_261 (ab_ix_nI (j := i + 1) (by omega) (by omega)) ?_
  refine a_aload_n X 0 d_La_law_262 rfl rfl ?_
  refine a_iload_n X 3 d_La_law_263 rfl rfl ?_
  refine a_iconst X (v := nI 2) d_La_law_264 (by decide) ?_
  refine a_iadd X d_La_law_265 ?_
  refine ab_topi (nI_add _ _) ?_
  refine a_sld X d_La_law_266 (ab_ix_nI (j := i + 2) (by omega) (by omega)) ?_
  refine a_aload_n X 0 d_La_law_267 rfl rfl ?_
  refine a_iload_n X 3 d_La_law_268 rfl rfl ?_
  refine a_iconst X (v := nI 3) d_La_law_269 (by decide) ?_
  refine a_iadd X d_La_law_270 ?_
  refine ab_topi (nI_add _ _) ?_
  refine a_sld X d_La_law_271 (ab_ix_nI (j := i + 3) (by omega) (by omega)) ?_
  refine a_aload_n X 0 d_La_law_272 rfl rfl ?_
  refine a_iload_n X 3 d_La_law_273 rfl rfl ?_
  refine a_iconst X (v := nI 4) d_La_law_274 (by decide) ?_
  refine a_iadd X d_La_law_275 ?_
  refine ab_topi (nI_add _ _) ?_
  refine a_sld X d_La_law_276 (ab_ix_nI (j := i + 4) (by omega) (by omega)) ?_
  refine a_callV X (a := 0) (As := [.int (E.2.2.2.2.2.2 (i + 1)), .int (E.2.2.2.2.2.2 (i + 2)), .int (E.2.2.2.2.2.2 (i + 3)), .int (E.2.2.2.2.2.2 (i + 4))]) hf0 rfl fb_H_rule lk_La_31 im_H_rule se_H_rule con1 rfl rfl (Nat.le_of_ble_eq_true rfl) (by decide) (by decide) (Nat.le_of_ble_eq_true rfl) (Nat.le_of_ble_eq_true rfl) d_La_law_277 (fun v h1 hp => ?_)
  obtain ⟨⟨-, ⟨f1, hf1⟩⟩, ⟨u, rfl⟩, P2, con2, hP2⟩ := hP1 v h1 hp
  refine a_aload_n X 2 d_La_law_280 rfl rfl ?_
  refine a_aload_n X 0 d_La_law_281 rfl rfl ?_
  refine a_iload_n X 3 d_La_law_282 rfl rfl ?_
  refine a_iconst X (v := nI 1) d_La_law_283 (by decide) ?_
  refine a_iadd X d_La_law_284 ?_
  refine ab_topi (nI_add _ _) ?_
  refine a_sld X d_La_law_285 (ab_ix_nI (j := i + 1) (by omega) (by omega)) ?_
  refine a_aload_n X 0 d_La_law_286 rfl rfl ?_
  refine a_iload_n X 3 d_La_law_287 rfl rfl ?_
  refine a_iconst X (v := nI 2) d_La_law_288 (by decide) ?_
  refine a_iadd X d_La_law_289 ?_
  refine ab_topi (nI_add _ _) ?_
  refine a_sld X d_La_law_290 (ab_ix_nI (j := i + 2) (by omega) (by omega)) ?_
  refine a_aload_n X 0 d_La_law_291 rfl rfl ?_
  refine a_iload_n X 3 d_La_law_292 rfl rfl ?_
  refine a_iconst X (v := nI 3) d_La_law_293 (by decide) ?_
  refine a_iadd X d_La_law_294 ?_
  refine ab_topi (nI_add _ _) ?_
  refine a_sld X d_La_law_295 (ab_ix_nI (j := i + 3) (by omega) (by omega)) ?_
  refine a_aload_n X 0 d_La_law_296 rfl rfl ?_
  refine a_iload_n X 3 d_La_law_297 rfl rfl ?_
  refine a_iconst X (v := nI 4) d_La_law_298 (by decide) ?_
  refine a_iadd X d_La_law_299 ?_
  refine ab_topi (nI_add _ _) ?_
  refine a_sld X d_La_law_300 (ab_ix_nI (j := i + 4) (by omega) (by omega)) ?_
  refine a_callV X (a := 203) (As := [.int (E.2.2.2.2.2.2 (i + 1)), .int (E.2.2.2.2.2.2 (i + 2)), .int (E.2.2.2.2.2.2 (i + 3)), .int (E.2.2.2.2.2.2 (i + 4))]) hf1 rfl fb_Mo_rule lk_La_35 im_Mo_rule se_Mo_rule con2 rfl rfl (Nat.le_of_ble_eq_true rfl) (by decide) (by decide) (Nat.le_of_ble_eq_true rfl) (Nat.le_of_ble_eq_true rfl) d_La_law_301 (fun v2 h2 hp2 => ?_)
  obtain ⟨rfl, hs2⟩ := hP2 v2 h2 hp2
  exact a_icmp_eq X 886 d_La_law_304 (by decide) (fun _ => kk h2 hs2) (fun c => absurd rfl c)
set_option maxHeartbeats 4000000 in
set_option maxRecDepth 20000 in
theorem law_leaf {E : ab_E} {l : Launch} {G : Heap → List Loc → Nat → Nat → JFrame → Prop} {m : MethodId} (X : LX E l G m) {i : Nat} {h : List ab_C} (hL : E.2.2.2.2.2.1 ≤ 3072) (hi : i + 6 ≤ E.2.2.2.2.2.1) (hs : sA h) (kk : ∀ h2, sA h2 → ab_R E G m 4 223 2618 886 [(0, .ref 0), (1, .ref 1), (2, .ref 204), (3, .int (nI i))] [] h2) : ab_R E G m 4 223 2618 309 [(0, .ref 0), (1, .ref 1), (2, .ref 204), (3, .int (nI i))] [] h := by
  obtain ⟨⟨f0, hf0⟩, -⟩ := sA_hO hs
  obtain ⟨P1, con1, hP1⟩ := j_leaf (E := E) (l := l) (a := E.2.2.2.2.2.2 (i + 1)) (e := E.2.2.2.2.2.2 (i + 2)) (x := E.2.2.2.2.2.2 (i + 3)) h hs
  refine a_aload_n X 1 d_La_law_309 rfl rfl ?_
  refine a_aload_n X 0 d_La_law_310 rfl rfl ?_
  refine a_iload_n X 3 d_La_law_311 rfl rfl ?_
  refine a_iconst X (v := nI 1) d_La_law_312 (by decide) ?_
  refine a_iadd X d_La_law_313 ?_
  refine ab_topi (nI_add _ _) ?_
  refine a_sld X d_La_law_314 (ab_ix_nI (j := i + 1) (by omega) (by omega)) ?_
  refine a_aload_n X 0 d_La_law_315 rfl rfl ?_
  refine a_iload_n X 3 d_La_law_316 rfl rfl ?_
  refine a_iconst X (v := nI 2) d_La_law_317 (by decide) ?_
  refine a_iadd X d_La_law_318 ?_
  refine ab_topi (nI_add _ _) ?_
  refine a_sld X d_La_law_319 (ab_ix_nI (j := i + 2) (by omega) (by omega)) ?_
  refine a_aload_n X 0 d_La_law_320 rfl rfl ?_
  refine a_iload_n X 3 d_La_law_321 rfl rfl ?_
  refine a_iconst X (v := nI 3) d_La_law_322 (by decide) ?_
  refine a_iadd X d_La_law_323 ?_
  refine ab_topi (nI_add _ _) ?_
  refine a_sld X d_La_law_324 (ab_ix_nI (j := i + 3) (by omega) (by omega)) ?_
  refine a_callV X (a := 0) (As := [.int (E.2.2.2.2.2.2 (i + 1)), .int (E.2.2.2.2.2.2 (i + 2)), .int (E.2.2.2.2.2.2 (i + 3))]) hf0 rfl fb_H_leaf lk_La_36 im_H_leaf se_H_leaf con1 rfl rfl (Nat.le_of_ble_eq_true rfl) (by decide) (by decide) (Nat.le_of_ble_eq_true rfl) (Nat.le_of_ble_eq_true rfl) d_La_law_325 (fun v h1 hp => ?_)
  obtain ⟨⟨-, ⟨f1, hf1⟩⟩, ⟨u, rfl⟩, P2, con2, hP2⟩ := hP1 v h1 hp
  refine a_aload_n X 2 d_La_law_328 rfl rfl ?_
  refine a_aload_n X 0 d_La_law_329 rfl rfl ?_
  refine a_iload_n X 3 d_La_law_330 rfl rfl ?_
  refine a_iconst X (v := nI 1) d_La_law_331 (by decide) ?_
  refine a_iadd X d_La_law_332 ?_
  refine ab_topi (nI_add _ _) ?_
  refine a_sld X d_La_law_333 (ab_ix_nI (j := i + 1) (by omega) (by omega)) ?_
  refine a_aload_n X 0 d_La_law_334 rfl rfl ?_
  refine a_iload_n X 3 d_La_law_335 rfl rfl ?_
  refine a_iconst X (v := nI 2) d_La_law_336 (by decide) ?_
  refine a_iadd X d_La_law_337 ?_
  refine ab_topi (nI_add _ _) ?_
  refine a_sld X d_La_law_338 (ab_ix_nI (j := i + 2) (by omega) (by omega)) ?_
  refine a_aload_n X 0 d_La_law_339 rfl rfl ?_
  refine a_iload_n X 3 d_La_law_340 rfl rfl ?_
  refine a_iconst X (v := nI 3) d_La_law_341 (by decide) ?_
  refine a_iadd X d_La_law_342 ?_
  refine ab_topi (nI_add _ _) ?_
  refine a_sld X d_La_law_343 (ab_ix_nI (j := i + 3) (by omega) (by omega)) ?_
  refine a_callV X (a := 203) (As := [.int (E.2.2.2.2.2.2 (i + 1)), .int (E.2.2.2.2.2.2 (i + 2)), .int (E.2.2.2.2.2.2 (i + 3))]) hf1 rfl fb_Mo_leaf lk_La_39 im_Mo_leaf se_Mo_leaf con2 rfl rfl (Nat.le_of_ble_eq_true rfl) (by decide) (by decide) (Nat.le_of_ble_eq_true rfl) (Nat.le_of_ble_eq_true rfl) d_La_law_344 (fun v2 h2 hp2 => ?_)
  obtain ⟨rfl, hs2⟩ := hP2 v2 h2 hp2
  exact a_icmp_eq X 886 d_La_law_347 (by decide) (fun _ => kk h2 hs2) (fun c => absurd rfl c)
set_option maxHeartbeats 4000000 in
set_option maxRecDepth 20000 in
theorem law_sign {E : ab_E} {l : Launch} {G : Heap → List Loc → Nat → Nat → JFrame → Prop} {m : MethodId} (X : LX E l G m) {i : Nat} {h : List ab_C} (hL : E.2.2.2.2.2.1 ≤ 3072) (hi : i + 6 ≤ E.2.2.2.2.2.1) (hs : sA h) (kk : ∀ h2, sA h2 → ab_R E G m 4 223 2618 886 [(0, .ref 0), (1, .ref 1), (2, .ref 204), (3, .int (nI i))] [] h2) : ab_R E G m 4 223 2618 352 [(0, .ref 0), (1, .ref 1), (2, .ref 204), (3, .int (nI i))] [] h := by
  obtain ⟨⟨f0, hf0⟩, -⟩ := sA_hO hs
  obtain ⟨P1, con1, hP1⟩ := j_sign (E := E) (l := l) (x := E.2.2.2.2.2.2 (i + 1)) h hs
  refine a_aload_n X 1 d_La_law_352 rfl rfl ?_
  refine a_aload_n X 0 d_La_law_353 rfl rfl ?_
  refine a_iload_n X 3 d_La_law_354 rfl rfl ?_
  refine a_iconst X (v := nI 1) d_La_law_355 (by decide) ?_
  refine a_iadd X d_La_law_356 ?_
  refine ab_topi (nI_add _ _) ?_
  refine a_sld X d_La_law_357 (ab_ix_nI (j := i + 1) (by omega) (by omega)) ?_
  refine a_callV X (a := 0) (As := [.int (E.2.2.2.2.2.2 (i + 1))]) hf0 rfl fb_H_sign lk_La_40 im_H_sign se_H_sign con1 rfl rfl (Nat.le_of_ble_eq_true rfl) (by decide) (by decide) (Nat.le_of_ble_eq_true rfl) (Nat.le_of_ble_eq_true rfl) d_La_law_358 (fun v h1 hp => ?_)
  obtain ⟨⟨-, ⟨f1, hf1⟩⟩, ⟨u, rfl⟩, P2, con2, hP2⟩ := hP1 v h1 hp
  refine a_aload_n X 2 d_La_law_361 rfl rfl ?_
  refine a_aload_n X 0 d_La_law_362 rfl rfl ?_
  refine a_iload_n X 3 d_La_law_363 rfl rfl ?_
  refine a_iconst X (v := nI 1) d_La_law_364 (by decide) ?_
  refine a_iadd X d_La_law_365 ?_
  refine ab_topi (nI_add _ _) ?_
  refine a_sld X d_La_law_366 (ab_ix_nI (j := i + 1) (by omega) (by omega)) ?_
  refine a_callV X (a := 203) (As := [.int (E.2.2.2.2.2.2 (i + 1))]) hf1 rfl fb_Mo_sign lk_La_44 im_Mo_sign se_Mo_sign con2 rfl rfl (Nat.le_of_ble_eq_true rfl) (by decide) (by decide) (Nat.le_of_ble_eq_true rfl) (Nat.le_of_ble_eq_true rfl) d_La_law_367 (fun v2 h2 hp2 => ?_)
  obtain ⟨rfl, hs2⟩ := hP2 v2 h2 hp2
  exact a_icmp_eq X 886 d_La_law_370 (by decide) (fun _ => kk h2 hs2) (fun c => absurd rfl c)
set_option maxHeartbeats 4000000 in
set_option maxRecDepth 20000 in
theorem law_clear {E : ab_E} {l : Launch} {G : Heap → List Loc → Nat → Nat → JFrame → Prop} {m : MethodId} (X : LX E l G m) {i : Nat} {h : List ab_C} (hL : E.2.2.2.2.2.1 ≤ 3072) (hi : i + 6 ≤ E.2.2.2.2.2.1) (hs : sA h) (kk : ∀ h2, sA h2 → ab_R E G m 4 223 2618 886 [(0, .ref 0), (1, .ref 1), (2, .ref 204), (3, .int (nI i))] [] h2) : ab_R E G m 4 223 2618 375 [(0, .ref 0), (1, .ref 1), (2, .ref 204), (3, .int (nI i))] [] h := by
  obtain ⟨⟨f0, hf0⟩, -⟩ := sA_hO hs
  obtain ⟨P1, con1, hP1⟩ := j_clear (E := E) (l := l)  h hs
  refine a_aload_n X 1 d_La_law_375 rfl rfl ?_
  refine a_callV X (a := 0) (As := []) hf0 rfl fb_H_clear lk_La_45 im_H_clear se_H_clear con1 rfl rfl (Nat.le_of_ble_eq_true rfl) (by decide) (by decide) (Nat.le_of_ble_eq_true rfl) (Nat.le_of_ble_eq_true rfl) d_La_law_376 (fun v h1 hp => ?_)
  obtain ⟨⟨-, ⟨f1, hf1⟩⟩, ⟨u, rfl⟩, P2, con2, hP2⟩ := hP1 v h1 hp
  refine a_aload_n X 2 d_La_law_379 rfl rfl ?_
  refine a_callV X (a := 203) (As := []) hf1 rfl fb_Mo_clear lk_La_48 im_Mo_clear se_Mo_clear con2 rfl rfl (Nat.le_of_ble_eq_true rfl) (by decide) (by decide) (Nat.le_of_ble_eq_true rfl) (Nat.le_of_ble_eq_true rfl) d_La_law_380 (fun v2 h2 hp2 => ?_)
  obtain ⟨rfl, hs2⟩ := hP2 v2 h2 hp2
  exact a_icmp_eq X 886 d_La_law_383 (by decide) (fun _ => kk h2 hs2) (fun c => absurd rfl c)
set_option maxHeartbeats 4000000 in
set_option maxRecDepth 20000 in
theorem law_hold {E : ab_E} {l : Launch} {G : Heap → List Loc → Nat → Nat → JFrame → Prop} {m : MethodId} (X : LX E l G m) {i : Nat} {h : List ab_C} (hL : E.2.2.2.2.2.1 ≤ 3072) (hi : i + 6 ≤ E.2.2.2.2.2.1) (hs : sA h) (kk : ∀ h2, sA h2 → ab_R E G m 4 223 2618 886 [(0, .ref 0), (1, .ref 1), (2, .ref 204), (3, .int (nI i))] [] h2) : ab_R E G m 4 223 2618 388 [(0, .ref 0), (1, .ref 1), (2, .ref 204), (3, .int (nI i))] [] h := by
  obtain ⟨⟨f0, hf0⟩, -⟩ := sA_hO hs
  obtain ⟨P1, con1, hP1⟩ := j_hold (E := E) (l := l) (a := E.2.2.2.2.2.2 (i + 1)) (e := E.2.2.2.2.2.2 (i + 2)) h hs
  refine a_aload_n X 1 d_La_law_388 rfl rfl ?_
  refine a_aload_n X 0 d_La_law_389 rfl rfl ?_
  refine a_iload_n X 3 d_La_law_390 rfl rfl ?_
  refine a_iconst X (v := nI 1) d_La_law_391 (by decide) ?_
  refine a_iadd X d_La_law_392 ?_
  refine ab_topi (nI_add _ _) ?_
  refine a_sld X d_La_law_393 (ab_ix_nI (j := i + 1) (by omega) (by omega)) ?_
  refine a_aload_n X 0 d_La_law_394 rfl rfl ?_
  refine a_iload_n X 3 d_La_law_395 rfl rfl ?_
  refine a_iconst X (v := nI 2) d_La_law_396 (by decide) ?_
  refine a_iadd X d_La_law_397 ?_
  refine ab_topi (nI_add _ _) ?_
  refine a_sld X d_La_law_398 (ab_ix_nI (j := i + 2) (by omega) (by omega)) ?_
  refine a_callV X (a := 0) (As := [.int (E.2.2.2.2.2.2 (i + 1)), .int (E.2.2.2.2.2.2 (i + 2))]) hf0 rfl fb_H_hold lk_La_49 im_H_hold se_H_hold con1 rfl rfl (Nat.le_of_ble_eq_true rfl) (by decide) (by decide) (Nat.le_of_ble_eq_true rfl) (Nat.le_of_ble_eq_true rfl) d_La_law_399 (fun v h1 hp => ?_)
  obtain ⟨⟨-, ⟨f1, hf1⟩⟩, ⟨u, rfl⟩, P2, con2, hP2⟩ := hP1 v h1 hp
  refine a_aload_n X 2 d_La_law_402 rfl rfl ?_
  refine a_aload_n X 0 d_La_law_403 rfl rfl ?_
  refine a_iload_n X 3 d_La_law_404 rfl rfl ?_
  refine a_iconst X (v := nI 1) d_La_law_405 (by decide) ?_
  refine a_iadd X d_La_law_406 ?_
  refine ab_topi (nI_add _ _) ?_
  refine a_sld X d_La_law_407 (ab_ix_nI (j := i + 1) (by omega) (by omega)) ?_
  refine a_aload_n X 0 d_La_law_408 rfl rfl ?_
  refine a_iload_n X 3 d_La_law_409 rfl rfl ?_
  refine a_iconst X (v := nI 2) d_La_law_410 (by decide) ?_
  refine a_iadd X d_La_law_411 ?_
  refine ab_topi (nI_add _ _) ?_
  refine a_sld X d_La_law_412 (ab_ix_nI (j := i + 2) (by omega) (by omega)) ?_
  refine a_callV X (a := 203) (As := [.int (E.2.2.2.2.2.2 (i + 1)), .int (E.2.2.2.2.2.2 (i + 2))]) hf1 rfl fb_Mo_hold lk_La_53 im_Mo_hold se_Mo_hold con2 rfl rfl (Nat.le_of_ble_eq_true rfl) (by decide) (by decide) (Nat.le_of_ble_eq_true rfl) (Nat.le_of_ble_eq_true rfl) d_La_law_413 (fun v2 h2 hp2 => ?_)
  obtain ⟨rfl, hs2⟩ := hP2 v2 h2 hp2
  exact a_icmp_eq X 886 d_La_law_416 (by decide) (fun _ => kk h2 hs2) (fun c => absurd rfl c)
set_option maxHeartbeats 4000000 in
set_option maxRecDepth 20000 in
theorem law_total {E : ab_E} {l : Launch} {G : Heap → List Loc → Nat → Nat → JFrame → Prop} {m : MethodId} (X : LX E l G m) {i : Nat} {h : List ab_C} (hL : E.2.2.2.2.2.1 ≤ 3072) (hi : i + 6 ≤ E.2.2.2.2.2.1) (hs : sA h) (kk : ∀ h2, sA h2 → ab_R E G m 4 223 2618 886 [(0, .ref 0), (1, .ref 1), (2, .ref 204), (3, .int (nI i))] [] h2) : ab_R E G m 4 223 2618 421 [(0, .ref 0), (1, .ref 1), (2, .ref 204), (3, .int (nI i))] [] h := by
  obtain ⟨⟨f0, hf0⟩, -⟩ := sA_hO hs
  obtain ⟨P1, con1, hP1⟩ := j_total (E := E) (l := l)  h hs
  refine a_aload_n X 1 d_La_law_421 rfl rfl ?_
  refine a_callV X (a := 0) (As := []) hf0 rfl fb_H_total lk_La_54 im_H_total se_H_total con1 rfl rfl (Nat.le_of_ble_eq_true rfl) (by decide) (by decide) (Nat.le_of_ble_eq_true rfl) (Nat.le_of_ble_eq_true rfl) d_La_law_422 (fun v h1 hp => ?_)
  obtain ⟨⟨-, ⟨f1, hf1⟩⟩, ⟨u, rfl⟩, P2, con2, hP2⟩ := hP1 v h1 hp
  refine a_aload_n X 2 d_La_law_425 rfl rfl ?_
  refine a_callV X (a := 203) (As := []) hf1 rfl fb_Mo_total lk_La_58 im_Mo_total se_Mo_total con2 rfl rfl (Nat.le_of_ble_eq_true rfl) (by decide) (by decide) (Nat.le_of_ble_eq_true rfl) (Nat.le_of_ble_eq_true rfl) d_La_law_426 (fun v2 h2 hp2 => ?_)
  obtain ⟨rfl, hs2⟩ := hP2 v2 h2 hp2
  refine a_lcmp X d_La_law_429 ?_
  exact a_if_eq X 886 d_La_law_430 (by decide) (fun _ => kk h2 hs2) (fun c => absurd (lg_self _) c)
set_option maxHeartbeats 4000000 in
set_option maxRecDepth 20000 in
theorem law_ways {E : ab_E} {l : Launch} {G : Heap → List Loc → Nat → Nat → JFrame → Prop} {m : MethodId} (X : LX E l G m) {i : Nat} {h : List ab_C} (hL : E.2.2.2.2.2.1 ≤ 3072) (hi : i + 6 ≤ E.2.2.2.2.2.1) (hs : sA h) (kk : ∀ h2, sA h2 → ab_R E G m 4 223 2618 886 [(0, .ref 0), (1, .ref 1), (2, .ref 204), (3, .int (nI i))] [] h2) : ab_R E G m 4 223 2618 435 [(0, .ref 0), (1, .ref 1), (2, .ref 204), (3, .int (nI i))] [] h := by
  obtain ⟨⟨f0, hf0⟩, -⟩ := sA_hO hs
  obtain ⟨P1, con1, hP1⟩ := j_ways (E := E) (l := l)  h hs
  refine a_aload_n X 1 d_La_law_435 rfl rfl ?_
  refine a_callV X (a := 0) (As := []) hf0 rfl fb_H_ways lk_La_59 im_H_ways se_H_ways con1 rfl rfl (Nat.le_of_ble_eq_true rfl) (by decide) (by decide) (Nat.le_of_ble_eq_true rfl) (Nat.le_of_ble_eq_true rfl) d_La_law_436 (fun v h1 hp => ?_)
  obtain ⟨⟨-, ⟨f1, hf1⟩⟩, ⟨u, rfl⟩, P2, con2, hP2⟩ := hP1 v h1 hp
  refine a_aload_n X 2 d_La_law_439 rfl rfl ?_
  refine a_callV X (a := 203) (As := []) hf1 rfl fb_Mo_ways lk_La_62 im_Mo_ways se_Mo_ways con2 rfl rfl (Nat.le_of_ble_eq_true rfl) (by decide) (by decide) (Nat.le_of_ble_eq_true rfl) (Nat.le_of_ble_eq_true rfl) d_La_law_440 (fun v2 h2 hp2 => ?_)
  obtain ⟨rfl, hs2⟩ := hP2 v2 h2 hp2
  exact a_icmp_eq X 886 d_La_law_443 (by decide) (fun _ => kk h2 hs2) (fun c => absurd rfl c)
set_option maxHeartbeats 4000000 in
set_option maxRecDepth 20000 in
theorem law_share {E : ab_E} {l : Launch} {G : Heap → List Loc → Nat → Nat → JFrame → Prop} {m : MethodId} (X : LX E l G m) {i : Nat} {h : List ab_C} (hL : E.2.2.2.2.2.1 ≤ 3072) (hi : i + 6 ≤ E.2.2.2.2.2.1) (hs : sA h) (kk : ∀ h2, sA h2 → ab_R E G m 4 223 2618 886 [(0, .ref 0), (1, .ref 1), (2, .ref 204), (3, .int (nI i))] [] h2) : ab_R E G m 4 223 2618 448 [(0, .ref 0), (1, .ref 1), (2, .ref 204), (3, .int (nI i))] [] h := by
  obtain ⟨⟨f0, hf0⟩, -⟩ := sA_hO hs
  obtain ⟨P1, con1, hP1⟩ := j_share (E := E) (l := l) (a := E.2.2.2.2.2.2 (i + 1)) (e := E.2.2.2.2.2.2 (i + 2)) (x := E.2.2.2.2.2.2 (i + 3)) h hs
  refine a_aload_n X 1 d_La_law_448 rfl rfl ?_
  refine a_aload_n X 0 d_La_law_449 rfl rfl ?_
  refine a_iload_n X 3 d_La_law_450 rfl rfl ?_
  refine a_iconst X (v := nI 1) d_La_law_451 (by decide) ?_
  refine a_iadd X d_La_law_452 ?_
  refine ab_topi (nI_add _ _) ?_
  refine a_sld X d_La_law_453 (ab_ix_nI (j := i + 1) (by omega) (by omega)) ?_
  refine a_aload_n X 0 d_La_law_454 rfl rfl ?_
  refine a_iload_n X 3 d_La_law_455 rfl rfl ?_
  refine a_iconst X (v := nI 2) d_La_law_456 (by decide) ?_
  refine a_iadd X d_La_law_457 ?_
  refine ab_topi (nI_add _ _) ?_
  refine a_sld X d_La_law_458 (ab_ix_nI (j := i + 2) (by omega) (by omega)) ?_
  refine a_aload_n X 0 d_La_law_459 rfl rfl ?_
  refine a_iload_n X 3 d_La_law_460 rfl rfl ?_
  refine a_iconst X (v := nI 3) d_La_law_461 (by decide) ?_
  refine a_iadd X d_La_law_462 ?_
  refine ab_topi (nI_add _ _) ?_
  refine a_sld X d_La_law_463 (ab_ix_nI (j := i + 3) (by omega) (by omega)) ?_
  refine a_callV X (a := 0) (As := [.int (E.2.2.2.2.2.2 (i + 1)), .int (E.2.2.2.2.2.2 (i + 2)), .int (E.2.2.2.2.2.2 (i + 3))]) hf0 rfl fb_H_share lk_La_63 im_H_share se_H_share con1 rfl rfl (Nat.le_of_ble_eq_true rfl) (by decide) (by decide) (Nat.le_of_ble_eq_true rfl) (Nat.le_of_ble_eq_true rfl) d_La_law_464 (fun v h1 hp => ?_)
  obtain ⟨⟨-, ⟨f1, hf1⟩⟩, ⟨u, rfl⟩, P2, con2, hP2⟩ := hP1 v h1 hp
  refine a_aload_n X 2 d_La_law_467 rfl rfl ?_
  refine a_aload_n X 0 d_La_law_468 rfl rfl ?_
  refine a_iload_n X 3 d_La_law_469 rfl rfl ?_
  refine a_iconst X (v := nI 1) d_La_law_470 (by decide) ?_
  refine a_iadd X d_La_law_471 ?_
  refine ab_topi (nI_add _ _) ?_
  refine a_sld X d_La_law_472 (ab_ix_nI (j := i + 1) (by omega) (by omega)) ?_
  refine a_aload_n X 0 d_La_law_473 rfl rfl ?_
  refine a_iload_n X 3 d_La_law_474 rfl rfl ?_
  refine a_iconst X (v := nI 2) d_La_law_475 (by decide) ?_
  refine a_iadd X d_La_law_476 ?_
  refine ab_topi (nI_add _ _) ?_
  refine a_sld X d_La_law_477 (ab_ix_nI (j := i + 2) (by omega) (by omega)) ?_
  refine a_aload_n X 0 d_La_law_478 rfl rfl ?_
  refine a_iload_n X 3 d_La_law_479 rfl rfl ?_
  refine a_iconst X (v := nI 3) d_La_law_480 (by decide) ?_
  refine a_iadd X d_La_law_481 ?_
  refine ab_topi (nI_add _ _) ?_
  refine a_sld X d_La_law_482 (ab_ix_nI (j := i + 3) (by omega) (by omega)) ?_
  refine a_callV X (a := 203) (As := [.int (E.2.2.2.2.2.2 (i + 1)), .int (E.2.2.2.2.2.2 (i + 2)), .int (E.2.2.2.2.2.2 (i + 3))]) hf1 rfl fb_Mo_share lk_La_67 im_Mo_share se_Mo_share con2 rfl rfl (Nat.le_of_ble_eq_true rfl) (by decide) (by decide) (Nat.le_of_ble_eq_true rfl) (Nat.le_of_ble_eq_true rfl) d_La_law_483 (fun v2 h2 hp2 => ?_)
  obtain ⟨rfl, hs2⟩ := hP2 v2 h2 hp2
  refine a_lcmp X d_La_law_486 ?_
  exact a_if_eq X 886 d_La_law_487 (by decide) (fun _ => kk h2 hs2) (fun c => absurd (lg_self _) c)
set_option maxHeartbeats 4000000 in
set_option maxRecDepth 20000 in
theorem law_begin {E : ab_E} {l : Launch} {G : Heap → List Loc → Nat → Nat → JFrame → Prop} {m : MethodId} (X : LX E l G m) {i : Nat} {h : List ab_C} (hL : E.2.2.2.2.2.1 ≤ 3072) (hi : i + 6 ≤ E.2.2.2.2.2.1) (hs : sA h) (kk : ∀ h2, sA h2 → ab_R E G m 4 223 2618 886 [(0, .ref 0), (1, .ref 1), (2, .ref 204), (3, .int (nI i))] [] h2) : ab_R E G m 4 223 2618 492 [(0, .ref 0), (1, .ref 1), (2, .ref 204), (3, .int (nI i))] [] h := by
  obtain ⟨⟨f0, hf0⟩, -⟩ := sA_hO hs
  obtain ⟨P1, con1, hP1⟩ := j_begin (E := E) (l := l) (a := E.2.2.2.2.2.2 (i + 1)) (e := E.2.2.2.2.2.2 (i + 2)) (x := E.2.2.2.2.2.2 (i + 3)) h hs
  refine a_aload_n X 1 d_La_law_492 rfl rfl ?_
  refine a_aload_n X 0 d_La_law_493 rfl rfl ?_
  refine a_iload_n X 3 d_La_law_494 rfl rfl ?_
  refine a_iconst X (v := nI 1) d_La_law_495 (by decide) ?_
  refine a_iadd X d_La_law_496 ?_
  refine ab_topi (nI_add _ _) ?_
  refine a_sld X d_La_law_497 (ab_ix_nI (j := i + 1) (by omega) (by omega)) ?_
  refine a_aload_n X 0 d_La_law_498 rfl rfl ?_
  refine a_iload_n X 3 d_La_law_499 rfl rfl ?_
  refine a_iconst X (v := nI 2) d_La_law_500 (by decide) ?_
  refine a_iadd X d_La_law_501 ?_
  refine ab_topi (nI_add _ _) ?_
  refine a_sld X d_La_law_502 (ab_ix_nI (j := i + 2) (by omega) (by omega)) ?_
  refine a_aload_n X 0 d_La_law_503 rfl rfl ?_
  refine a_iload_n X 3 d_La_law_504 rfl rfl ?_
  refine a_iconst X (v := nI 3) d_La_law_505 (by decide) ?_
  refine a_iadd X d_La_law_506 ?_
  refine ab_topi (nI_add _ _) ?_
  refine a_sld X d_La_law_507 (ab_ix_nI (j := i + 3) (by omega) (by omega)) ?_
  refine a_callV X (a := 0) (As := [.int (E.2.2.2.2.2.2 (i + 1)), .int (E.2.2.2.2.2.2 (i + 2)), .int (E.2.2.2.2.2.2 (i + 3))]) hf0 rfl fb_H_begin lk_La_68 im_H_begin se_H_begin con1 rfl rfl (Nat.le_of_ble_eq_true rfl) (by decide) (by decide) (Nat.le_of_ble_eq_true rfl) (Nat.le_of_ble_eq_true rfl) d_La_law_508 (fun v h1 hp => ?_)
  obtain ⟨⟨-, ⟨f1, hf1⟩⟩, ⟨u, rfl⟩, P2, con2, hP2⟩ := hP1 v h1 hp
  refine a_aload_n X 2 d_La_law_511 rfl rfl ?_
  refine a_aload_n X 0 d_La_law_512 rfl rfl ?_
  refine a_iload_n X 3 d_La_law_513 rfl rfl ?_
  refine a_iconst X (v := nI 1) d_La_law_514 (by decide) ?_
  refine a_iadd X d_La_law_515 ?_
  refine ab_topi (nI_add _ _) ?_
  refine a_sld X d_La_law_516 (ab_ix_nI (j := i + 1) (by omega) (by omega)) ?_
  refine a_aload_n X 0 d_La_law_517 rfl rfl ?_
  refine a_iload_n X 3 d_La_law_518 rfl rfl ?_
  refine a_iconst X (v := nI 2) d_La_law_519 (by decide) ?_
  refine a_iadd X d_La_law_520 ?_
  refine ab_topi (nI_add _ _) ?_
  refine a_sld X d_La_law_521 (ab_ix_nI (j := i + 2) (by omega) (by omega)) ?_
  refine a_aload_n X 0 d_La_law_522 rfl rfl ?_
  refine a_iload_n X 3 d_La_law_523 rfl rfl ?_
  refine a_iconst X (v := nI 3) d_La_law_524 (by decide) ?_
  refine a_iadd X d_La_law_525 ?_
  refine ab_topi (nI_add _ _) ?_
  refine a_sld X d_La_law_526 (ab_ix_nI (j := i + 3) (by omega) (by omega)) ?_
  refine a_callV X (a := 203) (As := [.int (E.2.2.2.2.2.2 (i + 1)), .int (E.2.2.2.2.2.2 (i + 2)), .int (E.2.2.2.2.2.2 (i + 3))]) hf1 rfl fb_Mo_begin lk_La_71 im_Mo_begin se_Mo_begin con2 rfl rfl (Nat.le_of_ble_eq_true rfl) (by decide) (by decide) (Nat.le_of_ble_eq_true rfl) (Nat.le_of_ble_eq_true rfl) d_La_law_527 (fun v2 h2 hp2 => ?_)
  obtain ⟨rfl, hs2⟩ := hP2 v2 h2 hp2
  refine a_lcmp X d_La_law_530 ?_
  exact a_if_eq X 886 d_La_law_531 (by decide) (fun _ => kk h2 hs2) (fun c => absurd (lg_self _) c)
set_option maxHeartbeats 4000000 in
set_option maxRecDepth 20000 in
theorem law_pair {E : ab_E} {l : Launch} {G : Heap → List Loc → Nat → Nat → JFrame → Prop} {m : MethodId} (X : LX E l G m) {i : Nat} {h : List ab_C} (hL : E.2.2.2.2.2.1 ≤ 3072) (hi : i + 6 ≤ E.2.2.2.2.2.1) (hs : sA h) (kk : ∀ h2, sA h2 → ab_R E G m 4 223 2618 886 [(0, .ref 0), (1, .ref 1), (2, .ref 204), (3, .int (nI i))] [] h2) : ab_R E G m 4 223 2618 536 [(0, .ref 0), (1, .ref 1), (2, .ref 204), (3, .int (nI i))] [] h := by
  obtain ⟨⟨f0, hf0⟩, -⟩ := sA_hO hs
  obtain ⟨P1, con1, hP1⟩ := j_pair (E := E) (l := l) (a := E.2.2.2.2.2.2 (i + 1)) (e := E.2.2.2.2.2.2 (i + 2)) (f := E.2.2.2.2.2.2 (i + 3)) (x := E.2.2.2.2.2.2 (i + 4)) h hs
  refine a_aload_n X 1 d_La_law_536 rfl rfl ?_
  refine a_aload_n X 0 d_La_law_537 rfl rfl ?_
  refine a_iload_n X 3 d_La_law_538 rfl rfl ?_
  refine a_iconst X (v := nI 1) d_La_law_539 (by decide) ?_
  refine a_iadd X d_La_law_540 ?_
  refine ab_topi (nI_add _ _) ?_
  refine a_sld X d_La_law_541 (ab_ix_nI (j := i + 1) (by omega) (by omega)) ?_
  refine a_aload_n X 0 d_La_law_542 rfl rfl ?_
  refine a_iload_n X 3 d_La_law_543 rfl rfl ?_
  refine a_iconst X (v := nI 2) d_La_law_544 (by decide) ?_
  refine a_iadd X d_La_law_545 ?_
  refine ab_topi (nI_add _ _) ?_
  refine a_sld X d_La_law_546 (ab_ix_nI (j := i + 2) (by omega) (by omega)) ?_
  refine a_aload_n X 0 d_La_law_547 rfl rfl ?_
  refine a_iload_n X 3 d_La_law_548 rfl rfl ?_
  refine a_iconst X (v := nI 3) d_La_law_549 (by decide) ?_
  refine a_iadd X d_La_law_550 ?_
  refine ab_topi (nI_add _ _) ?_
  refine a_sld X d_La_law_551 (ab_ix_nI (j := i + 3) (by omega) (by omega)) ?_
  refine a_aload_n X 0 d_La_law_552 rfl rfl ?_
  refine a_iload_n X 3 d_La_law_553 rfl rfl ?_
  refine a_iconst X (v := nI 4) d_La_law_554 (by decide) ?_
  refine a_iadd X d_La_law_555 ?_
  refine ab_topi (nI_add _ _) ?_
  refine a_sld X d_La_law_556 (ab_ix_nI (j := i + 4) (by omega) (by omega)) ?_
  refine a_callV X (a := 0) (As := [.int (E.2.2.2.2.2.2 (i + 1)), .int (E.2.2.2.2.2.2 (i + 2)), .int (E.2.2.2.2.2.2 (i + 3)), .int (E.2.2.2.2.2.2 (i + 4))]) hf0 rfl fb_H_pair lk_La_72 im_H_pair se_H_pair con1 rfl rfl (Nat.le_of_ble_eq_true rfl) (by decide) (by decide) (Nat.le_of_ble_eq_true rfl) (Nat.le_of_ble_eq_true rfl) d_La_law_557 (fun v h1 hp => ?_)
  obtain ⟨⟨-, ⟨f1, hf1⟩⟩, ⟨u, rfl⟩, P2, con2, hP2⟩ := hP1 v h1 hp
  refine a_aload_n X 2 d_La_law_560 rfl rfl ?_
  refine a_aload_n X 0 d_La_law_561 rfl rfl ?_
  refine a_iload_n X 3 d_La_law_562 rfl rfl ?_
  refine a_iconst X (v := nI 1) d_La_law_563 (by decide) ?_
  refine a_iadd X d_La_law_564 ?_
  refine ab_topi (nI_add _ _) ?_
  refine a_sld X d_La_law_565 (ab_ix_nI (j := i + 1) (by omega) (by omega)) ?_
  refine a_aload_n X 0 d_La_law_566 rfl rfl ?_
  refine a_iload_n X 3 d_La_law_567 rfl rfl ?_
  refine a_iconst X (v := nI 2) d_La_law_568 (by decide) ?_
  refine a_iadd X d_La_law_569 ?_
  refine ab_topi (nI_add _ _) ?_
  refine a_sld X d_La_law_570 (ab_ix_nI (j := i + 2) (by omega) (by omega)) ?_
  refine a_aload_n X 0 d_La_law_571 rfl rfl ?_
  refine a_iload_n X 3 d_La_law_572 rfl rfl ?_
  refine a_iconst X (v := nI 3) d_La_law_573 (by decide) ?_
  refine a_iadd X d_La_law_574 ?_
  refine ab_topi (nI_add _ _) ?_
  refine a_sld X d_La_law_575 (ab_ix_nI (j := i + 3) (by omega) (by omega)) ?_
  refine a_aload_n X 0 d_La_law_576 rfl rfl ?_
  refine a_iload_n X 3 d_La_law_577 rfl rfl ?_
  refine a_iconst X (v := nI 4) d_La_law_578 (by decide) ?_
  refine a_iadd X d_La_law_579 ?_
  refine ab_topi (nI_add _ _) ?_
  refine a_sld X d_La_law_580 (ab_ix_nI (j := i + 4) (by omega) (by omega)) ?_
  refine a_callV X (a := 203) (As := [.int (E.2.2.2.2.2.2 (i + 1)), .int (E.2.2.2.2.2.2 (i + 2)), .int (E.2.2.2.2.2.2 (i + 3)), .int (E.2.2.2.2.2.2 (i + 4))]) hf1 rfl fb_Mo_pair lk_La_76 im_Mo_pair se_Mo_pair con2 rfl rfl (Nat.le_of_ble_eq_true rfl) (by decide) (by decide) (Nat.le_of_ble_eq_true rfl) (Nat.le_of_ble_eq_true rfl) d_La_law_581 (fun v2 h2 hp2 => ?_)
  obtain ⟨rfl, hs2⟩ := hP2 v2 h2 hp2
  refine a_lcmp X d_La_law_584 ?_
  exact a_if_eq X 886 d_La_law_585 (by decide) (fun _ => kk h2 hs2) (fun c => absurd (lg_self _) c)
set_option maxHeartbeats 4000000 in
set_option maxRecDepth 20000 in
theorem law_top {E : ab_E} {l : Launch} {G : Heap → List Loc → Nat → Nat → JFrame → Prop} {m : MethodId} (X : LX E l G m) {i : Nat} {h : List ab_C} (hL : E.2.2.2.2.2.1 ≤ 3072) (hi : i + 6 ≤ E.2.2.2.2.2.1) (hs : sA h) (kk : ∀ h2, sA h2 → ab_R E G m 4 223 2618 886 [(0, .ref 0), (1, .ref 1), (2, .ref 204), (3, .int (nI i))] [] h2) : ab_R E G m 4 223 2618 590 [(0, .ref 0), (1, .ref 1), (2, .ref 204), (3, .int (nI i))] [] h := by
  obtain ⟨⟨f0, hf0⟩, -⟩ := sA_hO hs
  obtain ⟨P1, con1, hP1⟩ := j_top (E := E) (l := l) (a := E.2.2.2.2.2.2 (i + 1)) h hs
  refine a_aload_n X 1 d_La_law_590 rfl rfl ?_
  refine a_aload_n X 0 d_La_law_591 rfl rfl ?_
  refine a_iload_n X 3 d_La_law_592 rfl rfl ?_
  refine a_iconst X (v := nI 1) d_La_law_593 (by decide) ?_
  refine a_iadd X d_La_law_594 ?_
  refine ab_topi (nI_add _ _) ?_
  refine a_sld X d_La_law_595 (ab_ix_nI (j := i + 1) (by omega) (by omega)) ?_
  refine a_callV X (a := 0) (As := [.int (E.2.2.2.2.2.2 (i + 1))]) hf0 rfl fb_H_top lk_La_77 im_H_top se_H_top con1 rfl rfl (Nat.le_of_ble_eq_true rfl) (by decide) (by decide) (Nat.le_of_ble_eq_true rfl) (Nat.le_of_ble_eq_true rfl) d_La_law_596 (fun v h1 hp => ?_)
  obtain ⟨⟨-, ⟨f1, hf1⟩⟩, ⟨u, rfl⟩, P2, con2, hP2⟩ := hP1 v h1 hp
  refine a_aload_n X 2 d_La_law_599 rfl rfl ?_
  refine a_aload_n X 0 d_La_law_600 rfl rfl ?_
  refine a_iload_n X 3 d_La_law_601 rfl rfl ?_
  refine a_iconst X (v := nI 1) d_La_law_602 (by decide) ?_
  refine a_iadd X d_La_law_603 ?_
  refine ab_topi (nI_add _ _) ?_
  refine a_sld X d_La_law_604 (ab_ix_nI (j := i + 1) (by omega) (by omega)) ?_
  refine a_callV X (a := 203) (As := [.int (E.2.2.2.2.2.2 (i + 1))]) hf1 rfl fb_Mo_top lk_La_80 im_Mo_top se_Mo_top con2 rfl rfl (Nat.le_of_ble_eq_true rfl) (by decide) (by decide) (Nat.le_of_ble_eq_true rfl) (Nat.le_of_ble_eq_true rfl) d_La_law_605 (fun v2 h2 hp2 => ?_)
  obtain ⟨rfl, hs2⟩ := hP2 v2 h2 hp2
  exact a_icmp_eq X 886 d_La_law_608 (by decide) (fun _ => kk h2 hs2) (fun c => absurd rfl c)
set_option maxHeartbeats 4000000 in
set_option maxRecDepth 20000 in
theorem law_best {E : ab_E} {l : Launch} {G : Heap → List Loc → Nat → Nat → JFrame → Prop} {m : MethodId} (X : LX E l G m) {i : Nat} {h : List ab_C} (hL : E.2.2.2.2.2.1 ≤ 3072) (hi : i + 6 ≤ E.2.2.2.2.2.1) (hs : sA h) (kk : ∀ h2, sA h2 → ab_R E G m 4 223 2618 886 [(0, .ref 0), (1, .ref 1), (2, .ref 204), (3, .int (nI i))] [] h2) : ab_R E G m 4 223 2618 613 [(0, .ref 0), (1, .ref 1), (2, .ref 204), (3, .int (nI i))] [] h := by
  obtain ⟨⟨f0, hf0⟩, -⟩ := sA_hO hs
  obtain ⟨P1, con1, hP1⟩ := j_best (E := E) (l := l) (a := E.2.2.2.2.2.2 (i + 1)) h hs
  refine a_aload_n X 1 d_La_law_613 rfl rfl ?_
  refine a_aload_n X 0 d_La_law_614 rfl rfl ?_
  refine a_iload_n X 3 d_La_law_615 rfl rfl ?_
  refine a_iconst X (v := nI 1) d_La_law_616 (by decide) ?_
  refine a_iadd X d_La_law_617 ?_
  refine ab_topi (nI_add _ _) ?_
  refine a_sld X d_La_law_618 (ab_ix_nI (j := i + 1) (by omega) (by omega)) ?_
  refine a_callV X (a := 0) (As := [.int (E.2.2.2.2.2.2 (i + 1))]) hf0 rfl fb_H_best lk_La_81 im_H_best se_H_best con1 rfl rfl (Nat.le_of_ble_eq_true rfl) (by decide) (by decide) (Nat.le_of_ble_eq_true rfl) (Nat.le_of_ble_eq_true rfl) d_La_law_619 (fun v h1 hp => ?_)
  obtain ⟨⟨-, ⟨f1, hf1⟩⟩, ⟨u, rfl⟩, P2, con2, hP2⟩ := hP1 v h1 hp
  refine a_aload_n X 2 d_La_law_622 rfl rfl ?_
  refine a_aload_n X 0 d_La_law_623 rfl rfl ?_
  refine a_iload_n X 3 d_La_law_624 rfl rfl ?_
  refine a_iconst X (v := nI 1) d_La_law_625 (by decide) ?_
  refine a_iadd X d_La_law_626 ?_
  refine ab_topi (nI_add _ _) ?_
  refine a_sld X d_La_law_627 (ab_ix_nI (j := i + 1) (by omega) (by omega)) ?_
  refine a_callV X (a := 203) (As := [.int (E.2.2.2.2.2.2 (i + 1))]) hf1 rfl fb_Mo_best lk_La_85 im_Mo_best se_Mo_best con2 rfl rfl (Nat.le_of_ble_eq_true rfl) (by decide) (by decide) (Nat.le_of_ble_eq_true rfl) (Nat.le_of_ble_eq_true rfl) d_La_law_628 (fun v2 h2 hp2 => ?_)
  obtain ⟨rfl, hs2⟩ := hP2 v2 h2 hp2
  refine a_lcmp X d_La_law_631 ?_
  exact a_if_eq X 886 d_La_law_632 (by decide) (fun _ => kk h2 hs2) (fun c => absurd (lg_self _) c)
set_option maxHeartbeats 4000000 in
set_option maxRecDepth 20000 in
theorem law_bestAt {E : ab_E} {l : Launch} {G : Heap → List Loc → Nat → Nat → JFrame → Prop} {m : MethodId} (X : LX E l G m) {i : Nat} {h : List ab_C} (hL : E.2.2.2.2.2.1 ≤ 3072) (hi : i + 6 ≤ E.2.2.2.2.2.1) (hs : sA h) (kk : ∀ h2, sA h2 → ab_R E G m 4 223 2618 886 [(0, .ref 0), (1, .ref 1), (2, .ref 204), (3, .int (nI i))] [] h2) : ab_R E G m 4 223 2618 637 [(0, .ref 0), (1, .ref 1), (2, .ref 204), (3, .int (nI i))] [] h := by
  obtain ⟨⟨f0, hf0⟩, -⟩ := sA_hO hs
  obtain ⟨P1, con1, hP1⟩ := j_bestAt (E := E) (l := l) (a := E.2.2.2.2.2.2 (i + 1)) (e := E.2.2.2.2.2.2 (i + 2)) h hs
  refine a_aload_n X 1 d_La_law_637 rfl rfl ?_
  refine a_aload_n X 0 d_La_law_638 rfl rfl ?_
  refine a_iload_n X 3 d_La_law_639 rfl rfl ?_
  refine a_iconst X (v := nI 1) d_La_law_640 (by decide) ?_
  refine a_iadd X d_La_law_641 ?_
  refine ab_topi (nI_add _ _) ?_
  refine a_sld X d_La_law_642 (ab_ix_nI (j := i + 1) (by omega) (by omega)) ?_
  refine a_aload_n X 0 d_La_law_643 rfl rfl ?_
  refine a_iload_n X 3 d_La_law_644 rfl rfl ?_
  refine a_iconst X (v := nI 2) d_La_law_645 (by decide) ?_
  refine a_iadd X d_La_law_646 ?_
  refine ab_topi (nI_add _ _) ?_
  refine a_sld X d_La_law_647 (ab_ix_nI (j := i + 2) (by omega) (by omega)) ?_
  refine a_callV X (a := 0) (As := [.int (E.2.2.2.2.2.2 (i + 1)), .int (E.2.2.2.2.2.2 (i + 2))]) hf0 rfl fb_H_bestAt lk_La_86 im_H_bestAt se_H_bestAt con1 rfl rfl (Nat.le_of_ble_eq_true rfl) (by decide) (by decide) (Nat.le_of_ble_eq_true rfl) (Nat.le_of_ble_eq_true rfl) d_La_law_648 (fun v h1 hp => ?_)
  obtain ⟨⟨-, ⟨f1, hf1⟩⟩, ⟨u, rfl⟩, P2, con2, hP2⟩ := hP1 v h1 hp
  refine a_aload_n X 2 d_La_law_651 rfl rfl ?_
  refine a_aload_n X 0 d_La_law_652 rfl rfl ?_
  refine a_iload_n X 3 d_La_law_653 rfl rfl ?_
  refine a_iconst X (v := nI 1) d_La_law_654 (by decide) ?_
  refine a_iadd X d_La_law_655 ?_
  refine ab_topi (nI_add _ _) ?_
  refine a_sld X d_La_law_656 (ab_ix_nI (j := i + 1) (by omega) (by omega)) ?_
  refine a_aload_n X 0 d_La_law_657 rfl rfl ?_
  refine a_iload_n X 3 d_La_law_658 rfl rfl ?_
  refine a_iconst X (v := nI 2) d_La_law_659 (by decide) ?_
  refine a_iadd X d_La_law_660 ?_
  refine ab_topi (nI_add _ _) ?_
  refine a_sld X d_La_law_661 (ab_ix_nI (j := i + 2) (by omega) (by omega)) ?_
  refine a_callV X (a := 203) (As := [.int (E.2.2.2.2.2.2 (i + 1)), .int (E.2.2.2.2.2.2 (i + 2))]) hf1 rfl fb_Mo_bestAt lk_La_89 im_Mo_bestAt se_Mo_bestAt con2 rfl rfl (Nat.le_of_ble_eq_true rfl) (by decide) (by decide) (Nat.le_of_ble_eq_true rfl) (Nat.le_of_ble_eq_true rfl) d_La_law_662 (fun v2 h2 hp2 => ?_)
  obtain ⟨rfl, hs2⟩ := hP2 v2 h2 hp2
  exact a_icmp_eq X 886 d_La_law_665 (by decide) (fun _ => kk h2 hs2) (fun c => absurd rfl c)
set_option maxHeartbeats 4000000 in
set_option maxRecDepth 20000 in
theorem law_drawn {E : ab_E} {l : Launch} {G : Heap → List Loc → Nat → Nat → JFrame → Prop} {m : MethodId} (X : LX E l G m) {i : Nat} {h : List ab_C} (hL : E.2.2.2.2.2.1 ≤ 3072) (hi : i + 6 ≤ E.2.2.2.2.2.1) (hs : sA h) (kk : ∀ h2, sA h2 → ab_R E G m 4 223 2618 886 [(0, .ref 0), (1, .ref 1), (2, .ref 204), (3, .int (nI i))] [] h2) : ab_R E G m 4 223 2618 670 [(0, .ref 0), (1, .ref 1), (2, .ref 204), (3, .int (nI i))] [] h := by
  obtain ⟨⟨f0, hf0⟩, -⟩ := sA_hO hs
  obtain ⟨P1, con1, hP1⟩ := j_drawn (E := E) (l := l) (x := E.2.2.2.2.2.2 (i + 1)) h hs
  refine a_aload_n X 1 d_La_law_670 rfl rfl ?_
  refine a_aload_n X 0 d_La_law_671 rfl rfl ?_
  refine a_iload_n X 3 d_La_law_672 rfl rfl ?_
  refine a_iconst X (v := nI 1) d_La_law_673 (by decide) ?_
  refine a_iadd X d_La_law_674 ?_
  refine ab_topi (nI_add _ _) ?_
  refine a_sld X d_La_law_675 (ab_ix_nI (j := i + 1) (by omega) (by omega)) ?_
  refine a_callV X (a := 0) (As := [.int (E.2.2.2.2.2.2 (i + 1))]) hf0 rfl fb_H_drawn lk_La_90 im_H_drawn se_H_drawn con1 rfl rfl (Nat.le_of_ble_eq_true rfl) (by decide) (by decide) (Nat.le_of_ble_eq_true rfl) (Nat.le_of_ble_eq_true rfl) d_La_law_676 (fun v h1 hp => ?_)
  obtain ⟨⟨-, ⟨f1, hf1⟩⟩, ⟨u, rfl⟩, P2, con2, hP2⟩ := hP1 v h1 hp
  refine a_aload_n X 2 d_La_law_679 rfl rfl ?_
  refine a_aload_n X 0 d_La_law_680 rfl rfl ?_
  refine a_iload_n X 3 d_La_law_681 rfl rfl ?_
  refine a_iconst X (v := nI 1) d_La_law_682 (by decide) ?_
  refine a_iadd X d_La_law_683 ?_
  refine ab_topi (nI_add _ _) ?_
  refine a_sld X d_La_law_684 (ab_ix_nI (j := i + 1) (by omega) (by omega)) ?_
  refine a_callV X (a := 203) (As := [.int (E.2.2.2.2.2.2 (i + 1))]) hf1 rfl fb_Mo_drawn lk_La_93 im_Mo_drawn se_Mo_drawn con2 rfl rfl (Nat.le_of_ble_eq_true rfl) (by decide) (by decide) (Nat.le_of_ble_eq_true rfl) (Nat.le_of_ble_eq_true rfl) d_La_law_685 (fun v2 h2 hp2 => ?_)
  obtain ⟨rfl, hs2⟩ := hP2 v2 h2 hp2
  refine a_lcmp X d_La_law_688 ?_
  exact a_if_eq X 886 d_La_law_689 (by decide) (fun _ => kk h2 hs2) (fun c => absurd (lg_self _) c)
set_option maxHeartbeats 4000000 in
set_option maxRecDepth 20000 in
theorem law_drawnAt {E : ab_E} {l : Launch} {G : Heap → List Loc → Nat → Nat → JFrame → Prop} {m : MethodId} (X : LX E l G m) {i : Nat} {h : List ab_C} (hL : E.2.2.2.2.2.1 ≤ 3072) (hi : i + 6 ≤ E.2.2.2.2.2.1) (hs : sA h) (kk : ∀ h2, sA h2 → ab_R E G m 4 223 2618 886 [(0, .ref 0), (1, .ref 1), (2, .ref 204), (3, .int (nI i))] [] h2) : ab_R E G m 4 223 2618 694 [(0, .ref 0), (1, .ref 1), (2, .ref 204), (3, .int (nI i))] [] h := by
  obtain ⟨⟨f0, hf0⟩, -⟩ := sA_hO hs
  obtain ⟨P1, con1, hP1⟩ := j_drawnAt (E := E) (l := l) (a := E.2.2.2.2.2.2 (i + 1)) h hs
  refine a_aload_n X 1 d_La_law_694 rfl rfl ?_
  refine a_aload_n X 0 d_La_law_695 rfl rfl ?_
  refine a_iload_n X 3 d_La_law_696 rfl rfl ?_
  refine a_iconst X (v := nI 1) d_La_law_697 (by decide) ?_
  refine a_iadd X d_La_law_698 ?_
  refine ab_topi (nI_add _ _) ?_
  refine a_sld X d_La_law_699 (ab_ix_nI (j := i + 1) (by omega) (by omega)) ?_
  refine a_callV X (a := 0) (As := [.int (E.2.2.2.2.2.2 (i + 1))]) hf0 rfl fb_H_drawnAt lk_La_94 im_H_drawnAt se_H_drawnAt con1 rfl rfl (Nat.le_of_ble_eq_true rfl) (by decide) (by decide) (Nat.le_of_ble_eq_true rfl) (Nat.le_of_ble_eq_true rfl) d_La_law_700 (fun v h1 hp => ?_)
  obtain ⟨⟨-, ⟨f1, hf1⟩⟩, ⟨u, rfl⟩, P2, con2, hP2⟩ := hP1 v h1 hp
  refine a_aload_n X 2 d_La_law_703 rfl rfl ?_
  refine a_aload_n X 0 d_La_law_704 rfl rfl ?_
  refine a_iload_n X 3 d_La_law_705 rfl rfl ?_
  refine a_iconst X (v := nI 1) d_La_law_706 (by decide) ?_
  refine a_iadd X d_La_law_707 ?_
  refine ab_topi (nI_add _ _) ?_
  refine a_sld X d_La_law_708 (ab_ix_nI (j := i + 1) (by omega) (by omega)) ?_
  refine a_callV X (a := 203) (As := [.int (E.2.2.2.2.2.2 (i + 1))]) hf1 rfl fb_Mo_drawnAt lk_La_97 im_Mo_drawnAt se_Mo_drawnAt con2 rfl rfl (Nat.le_of_ble_eq_true rfl) (by decide) (by decide) (Nat.le_of_ble_eq_true rfl) (Nat.le_of_ble_eq_true rfl) d_La_law_709 (fun v2 h2 hp2 => ?_)
  obtain ⟨rfl, hs2⟩ := hP2 v2 h2 hp2
  exact a_icmp_eq X 886 d_La_law_712 (by decide) (fun _ => kk h2 hs2) (fun c => absurd rfl c)
set_option maxHeartbeats 4000000 in
set_option maxRecDepth 20000 in
theorem law_trees {E : ab_E} {l : Launch} {G : Heap → List Loc → Nat → Nat → JFrame → Prop} {m : MethodId} (X : LX E l G m) {i : Nat} {h : List ab_C} (hL : E.2.2.2.2.2.1 ≤ 3072) (hi : i + 6 ≤ E.2.2.2.2.2.1) (hs : sA h) (kk : ∀ h2, sA h2 → ab_R E G m 4 223 2618 886 [(0, .ref 0), (1, .ref 1), (2, .ref 204), (3, .int (nI i))] [] h2) : ab_R E G m 4 223 2618 717 [(0, .ref 0), (1, .ref 1), (2, .ref 204), (3, .int (nI i))] [] h := by
  obtain ⟨⟨f0, hf0⟩, -⟩ := sA_hO hs
  obtain ⟨P1, con1, hP1⟩ := j_trees (E := E) (l := l) (a := E.2.2.2.2.2.2 (i + 1)) h hs
  refine a_aload_n X 1 d_La_law_717 rfl rfl ?_
  refine a_aload_n X 0 d_La_law_718 rfl rfl ?_
  refine a_iload_n X 3 d_La_law_719 rfl rfl ?_
  refine a_iconst X (v := nI 1) d_La_law_720 (by decide) ?_
  refine a_iadd X d_La_law_721 ?_
  refine ab_topi (nI_add _ _) ?_
  refine a_sld X d_La_law_722 (ab_ix_nI (j := i + 1) (by omega) (by omega)) ?_
  refine a_callV X (a := 0) (As := [.int (E.2.2.2.2.2.2 (i + 1))]) hf0 rfl fb_H_trees lk_La_98 im_H_trees se_H_trees con1 rfl rfl (Nat.le_of_ble_eq_true rfl) (by decide) (by decide) (Nat.le_of_ble_eq_true rfl) (Nat.le_of_ble_eq_true rfl) d_La_law_723 (fun v h1 hp => ?_)
  obtain ⟨⟨-, ⟨f1, hf1⟩⟩, ⟨u, rfl⟩, P2, con2, hP2⟩ := hP1 v h1 hp
  refine a_aload_n X 2 d_La_law_726 rfl rfl ?_
  refine a_aload_n X 0 d_La_law_727 rfl rfl ?_
  refine a_iload_n X 3 d_La_law_728 rfl rfl ?_
  refine a_iconst X (v := nI 1) d_La_law_729 (by decide) ?_
  refine a_iadd X d_La_law_730 ?_
  refine ab_topi (nI_add _ _) ?_
  refine a_sld X d_La_law_731 (ab_ix_nI (j := i + 1) (by omega) (by omega)) ?_
  refine a_callV X (a := 203) (As := [.int (E.2.2.2.2.2.2 (i + 1))]) hf1 rfl fb_Mo_trees lk_La_101 im_Mo_trees se_Mo_trees con2 rfl rfl (Nat.le_of_ble_eq_true rfl) (by decide) (by decide) (Nat.le_of_ble_eq_true rfl) (Nat.le_of_ble_eq_true rfl) d_La_law_732 (fun v2 h2 hp2 => ?_)
  obtain ⟨rfl, hs2⟩ := hP2 v2 h2 hp2
  refine a_lcmp X d_La_law_735 ?_
  exact a_if_eq X 886 d_La_law_736 (by decide) (fun _ => kk h2 hs2) (fun c => absurd (lg_self _) c)
set_option maxHeartbeats 4000000 in
set_option maxRecDepth 20000 in
theorem law_treeCount {E : ab_E} {l : Launch} {G : Heap → List Loc → Nat → Nat → JFrame → Prop} {m : MethodId} (X : LX E l G m) {i : Nat} {h : List ab_C} (hL : E.2.2.2.2.2.1 ≤ 3072) (hi : i + 6 ≤ E.2.2.2.2.2.1) (hs : sA h) (kk : ∀ h2, sA h2 → ab_R E G m 4 223 2618 886 [(0, .ref 0), (1, .ref 1), (2, .ref 204), (3, .int (nI i))] [] h2) : ab_R E G m 4 223 2618 741 [(0, .ref 0), (1, .ref 1), (2, .ref 204), (3, .int (nI i))] [] h := by
  obtain ⟨⟨f0, hf0⟩, -⟩ := sA_hO hs
  obtain ⟨P1, con1, hP1⟩ := j_treeCount (E := E) (l := l) (a := E.2.2.2.2.2.2 (i + 1)) h hs
  refine a_aload_n X 1 d_La_law_741 rfl rfl ?_
  refine a_aload_n X 0 d_La_law_742 rfl rfl ?_
  refine a_iload_n X 3 d_La_law_743 rfl rfl ?_
  refine a_iconst X (v := nI 1) d_La_law_744 (by decide) ?_
  refine a_iadd X d_La_law_745 ?_
  refine ab_topi (nI_add _ _) ?_
  refine a_sld X d_La_law_746 (ab_ix_nI (j := i + 1) (by omega) (by omega)) ?_
  refine a_callV X (a := 0) (As := [.int (E.2.2.2.2.2.2 (i + 1))]) hf0 rfl fb_H_treeCount lk_La_102 im_H_treeCount se_H_treeCount con1 rfl rfl (Nat.le_of_ble_eq_true rfl) (by decide) (by decide) (Nat.le_of_ble_eq_true rfl) (Nat.le_of_ble_eq_true rfl) d_La_law_747 (fun v h1 hp => ?_)
  obtain ⟨⟨-, ⟨f1, hf1⟩⟩, ⟨u, rfl⟩, P2, con2, hP2⟩ := hP1 v h1 hp
  refine a_aload_n X 2 d_La_law_750 rfl rfl ?_
  refine a_aload_n X 0 d_La_law_751 rfl rfl ?_
  refine a_iload_n X 3 d_La_law_752 rfl rfl ?_
  refine a_iconst X (v := nI 1) d_La_law_753 (by decide) ?_
  refine a_iadd X d_La_law_754 ?_
  refine ab_topi (nI_add _ _) ?_
  refine a_sld X d_La_law_755 (ab_ix_nI (j := i + 1) (by omega) (by omega)) ?_
  refine a_callV X (a := 203) (As := [.int (E.2.2.2.2.2.2 (i + 1))]) hf1 rfl fb_Mo_treeCount lk_La_105 im_Mo_treeCount se_Mo_treeCount con2 rfl rfl (Nat.le_of_ble_eq_true rfl) (by decide) (by decide) (Nat.le_of_ble_eq_true rfl) (Nat.le_of_ble_eq_true rfl) d_La_law_756 (fun v2 h2 hp2 => ?_)
  obtain ⟨rfl, hs2⟩ := hP2 v2 h2 hp2
  refine a_lcmp X d_La_law_759 ?_
  exact a_if_eq X 886 d_La_law_760 (by decide) (fun _ => kk h2 hs2) (fun c => absurd (lg_self _) c)
set_option maxHeartbeats 4000000 in
set_option maxRecDepth 20000 in
theorem law_treeBest {E : ab_E} {l : Launch} {G : Heap → List Loc → Nat → Nat → JFrame → Prop} {m : MethodId} (X : LX E l G m) {i : Nat} {h : List ab_C} (hL : E.2.2.2.2.2.1 ≤ 3072) (hi : i + 6 ≤ E.2.2.2.2.2.1) (hs : sA h) (kk : ∀ h2, sA h2 → ab_R E G m 4 223 2618 886 [(0, .ref 0), (1, .ref 1), (2, .ref 204), (3, .int (nI i))] [] h2) : ab_R E G m 4 223 2618 765 [(0, .ref 0), (1, .ref 1), (2, .ref 204), (3, .int (nI i))] [] h := by
  obtain ⟨⟨f0, hf0⟩, -⟩ := sA_hO hs
  obtain ⟨P1, con1, hP1⟩ := j_treeBest (E := E) (l := l) (a := E.2.2.2.2.2.2 (i + 1)) h hs
  refine a_aload_n X 1 d_La_law_765 rfl rfl ?_
  refine a_aload_n X 0 d_La_law_766 rfl rfl ?_
  refine a_iload_n X 3 d_La_law_767 rfl rfl ?_
  refine a_iconst X (v := nI 1) d_La_law_768 (by decide) ?_
  refine a_iadd X d_La_law_769 ?_
  refine ab_topi (nI_add _ _) ?_
  refine a_sld X d_La_law_770 (ab_ix_nI (j := i + 1) (by omega) (by omega)) ?_
  refine a_callV X (a := 0) (As := [.int (E.2.2.2.2.2.2 (i + 1))]) hf0 rfl fb_H_treeBest lk_La_106 im_H_treeBest se_H_treeBest con1 rfl rfl (Nat.le_of_ble_eq_true rfl) (by decide) (by decide) (Nat.le_of_ble_eq_true rfl) (Nat.le_of_ble_eq_true rfl) d_La_law_771 (fun v h1 hp => ?_)
  obtain ⟨⟨-, ⟨f1, hf1⟩⟩, ⟨u, rfl⟩, P2, con2, hP2⟩ := hP1 v h1 hp
  refine a_aload_n X 2 d_La_law_774 rfl rfl ?_
  refine a_aload_n X 0 d_La_law_775 rfl rfl ?_
  refine a_iload_n X 3 d_La_law_776 rfl rfl ?_
  refine a_iconst X (v := nI 1) d_La_law_777 (by decide) ?_
  refine a_iadd X d_La_law_778 ?_
  refine ab_topi (nI_add _ _) ?_
  refine a_sld X d_La_law_779 (ab_ix_nI (j := i + 1) (by omega) (by omega)) ?_
  refine a_callV X (a := 203) (As := [.int (E.2.2.2.2.2.2 (i + 1))]) hf1 rfl fb_Mo_treeBest lk_La_109 im_Mo_treeBest se_Mo_treeBest con2 rfl rfl (Nat.le_of_ble_eq_true rfl) (by decide) (by decide) (Nat.le_of_ble_eq_true rfl) (Nat.le_of_ble_eq_true rfl) d_La_law_780 (fun v2 h2 hp2 => ?_)
  obtain ⟨rfl, hs2⟩ := hP2 v2 h2 hp2
  refine a_lcmp X d_La_law_783 ?_
  exact a_if_eq X 886 d_La_law_784 (by decide) (fun _ => kk h2 hs2) (fun c => absurd (lg_self _) c)
set_option maxHeartbeats 4000000 in
set_option maxRecDepth 20000 in
theorem law_treeAt {E : ab_E} {l : Launch} {G : Heap → List Loc → Nat → Nat → JFrame → Prop} {m : MethodId} (X : LX E l G m) {i : Nat} {h : List ab_C} (hL : E.2.2.2.2.2.1 ≤ 3072) (hi : i + 6 ≤ E.2.2.2.2.2.1) (hs : sA h) (kk : ∀ h2, sA h2 → ab_R E G m 4 223 2618 886 [(0, .ref 0), (1, .ref 1), (2, .ref 204), (3, .int (nI i))] [] h2) : ab_R E G m 4 223 2618 789 [(0, .ref 0), (1, .ref 1), (2, .ref 204), (3, .int (nI i))] [] h := by
  obtain ⟨⟨f0, hf0⟩, -⟩ := sA_hO hs
  obtain ⟨P1, con1, hP1⟩ := j_treeAt (E := E) (l := l) (a := E.2.2.2.2.2.2 (i + 1)) (e := E.2.2.2.2.2.2 (i + 2)) h hs
  refine a_aload_n X 1 d_La_law_789 rfl rfl ?_
  refine a_aload_n X 0 d_La_law_790 rfl rfl ?_
  refine a_iload_n X 3 d_La_law_791 rfl rfl ?_
  refine a_iconst X (v := nI 1) d_La_law_792 (by decide) ?_
  refine a_iadd X d_La_law_793 ?_
  refine ab_topi (nI_add _ _) ?_
  refine a_sld X d_La_law_794 (ab_ix_nI (j := i + 1) (by omega) (by omega)) ?_
  refine a_aload_n X 0 d_La_law_795 rfl rfl ?_
  refine a_iload_n X 3 d_La_law_796 rfl rfl ?_
  refine a_iconst X (v := nI 2) d_La_law_797 (by decide) ?_
  refine a_iadd X d_La_law_798 ?_
  refine ab_topi (nI_add _ _) ?_
  refine a_sld X d_La_law_799 (ab_ix_nI (j := i + 2) (by omega) (by omega)) ?_
  refine a_callV X (a := 0) (As := [.int (E.2.2.2.2.2.2 (i + 1)), .int (E.2.2.2.2.2.2 (i + 2))]) hf0 rfl fb_H_treeAt lk_La_110 im_H_treeAt se_H_treeAt con1 rfl rfl (Nat.le_of_ble_eq_true rfl) (by decide) (by decide) (Nat.le_of_ble_eq_true rfl) (Nat.le_of_ble_eq_true rfl) d_La_law_800 (fun v h1 hp => ?_)
  obtain ⟨⟨-, ⟨f1, hf1⟩⟩, ⟨u, rfl⟩, P2, con2, hP2⟩ := hP1 v h1 hp
  refine a_aload_n X 2 d_La_law_803 rfl rfl ?_
  refine a_aload_n X 0 d_La_law_804 rfl rfl ?_
  refine a_iload_n X 3 d_La_law_805 rfl rfl ?_
  refine a_iconst X (v := nI 1) d_La_law_806 (by decide) ?_
  refine a_iadd X d_La_law_807 ?_
  refine ab_topi (nI_add _ _) ?_
  refine a_sld X d_La_law_808 (ab_ix_nI (j := i + 1) (by omega) (by omega)) ?_
  refine a_aload_n X 0 d_La_law_809 rfl rfl ?_
  refine a_iload_n X 3 d_La_law_810 rfl rfl ?_
  refine a_iconst X (v := nI 2) d_La_law_811 (by decide) ?_
  refine a_iadd X d_La_law_812 ?_
  refine ab_topi (nI_add _ _) ?_
  refine a_sld X d_La_law_813 (ab_ix_nI (j := i + 2) (by omega) (by omega)) ?_
  refine a_callV X (a := 203) (As := [.int (E.2.2.2.2.2.2 (i + 1)), .int (E.2.2.2.2.2.2 (i + 2))]) hf1 rfl fb_Mo_treeAt lk_La_113 im_Mo_treeAt se_Mo_treeAt con2 rfl rfl (Nat.le_of_ble_eq_true rfl) (by decide) (by decide) (Nat.le_of_ble_eq_true rfl) (Nat.le_of_ble_eq_true rfl) d_La_law_814 (fun v2 h2 hp2 => ?_)
  obtain ⟨rfl, hs2⟩ := hP2 v2 h2 hp2
  exact a_icmp_eq X 886 d_La_law_817 (by decide) (fun _ => kk h2 hs2) (fun c => absurd rfl c)
set_option maxHeartbeats 4000000 in
set_option maxRecDepth 20000 in
theorem law_span {E : ab_E} {l : Launch} {G : Heap → List Loc → Nat → Nat → JFrame → Prop} {m : MethodId} (X : LX E l G m) {i : Nat} {h : List ab_C} (hL : E.2.2.2.2.2.1 ≤ 3072) (hi : i + 6 ≤ E.2.2.2.2.2.1) (hs : sA h) (kk : ∀ h2, sA h2 → ab_R E G m 4 223 2618 886 [(0, .ref 0), (1, .ref 1), (2, .ref 204), (3, .int (nI i))] [] h2) : ab_R E G m 4 223 2618 822 [(0, .ref 0), (1, .ref 1), (2, .ref 204), (3, .int (nI i))] [] h := by
  obtain ⟨⟨f0, hf0⟩, -⟩ := sA_hO hs
  obtain ⟨P1, con1, hP1⟩ := j_span (E := E) (l := l) (a := E.2.2.2.2.2.2 (i + 1)) (e := E.2.2.2.2.2.2 (i + 2)) (f := E.2.2.2.2.2.2 (i + 3)) (g := E.2.2.2.2.2.2 (i + 4)) (x := E.2.2.2.2.2.2 (i + 5)) h hs
  refine a_aload_n X 1 d_La_law_822 rfl rfl ?_
  refine a_aload_n X 0 d_La_law_823 rfl rfl ?_
  refine a_iload_n X 3 d_La_law_824 rfl rfl ?_
  refine a_iconst X (v := nI 1) d_La_law_825 (by decide) ?_
  refine a_iadd X d_La_law_826 ?_
  refine ab_topi (nI_add _ _) ?_
  refine a_sld X d_La_law_827 (ab_ix_nI (j := i + 1) (by omega) (by omega)) ?_
  refine a_aload_n X 0 d_La_law_828 rfl rfl ?_
  refine a_iload_n X 3 d_La_law_829 rfl rfl ?_
  refine a_iconst X (v := nI 2) d_La_law_830 (by decide) ?_
  refine a_iadd X d_La_law_831 ?_
  refine ab_topi (nI_add _ _) ?_
  refine a_sld X d_La_law_832 (ab_ix_nI (j := i + 2) (by omega) (by omega)) ?_
  refine a_aload_n X 0 d_La_law_833 rfl rfl ?_
  refine a_iload_n X 3 d_La_law_834 rfl rfl ?_
  refine a_iconst X (v := nI 3) d_La_law_835 (by decide) ?_
  refine a_iadd X d_La_law_836 ?_
  refine ab_topi (nI_add _ _) ?_
  refine a_sld X d_La_law_837 (ab_ix_nI (j := i + 3) (by omega) (by omega)) ?_
  refine a_aload_n X 0 d_La_law_838 rfl rfl ?_
  refine a_iload_n X 3 d_La_law_839 rfl rfl ?_
  refine a_iconst X (v := nI 4) d_La_law_840 (by decide) ?_
  refine a_iadd X d_La_law_841 ?_
  refine ab_topi (nI_add _ _) ?_
  refine a_sld X d_La_law_842 (ab_ix_nI (j := i + 4) (by omega) (by omega)) ?_
  refine a_aload_n X 0 d_La_law_843 rfl rfl ?_
  refine a_iload_n X 3 d_La_law_844 rfl rfl ?_
  refine a_iconst X (v := nI 5) d_La_law_845 (by decide) ?_
  refine a_iadd X d_La_law_846 ?_
  refine ab_topi (nI_add _ _) ?_
  refine a_sld X d_La_law_847 (ab_ix_nI (j := i + 5) (by omega) (by omega)) ?_
  refine a_callV X (a := 0) (As := [.int (E.2.2.2.2.2.2 (i + 1)), .int (E.2.2.2.2.2.2 (i + 2)), .int (E.2.2.2.2.2.2 (i + 3)), .int (E.2.2.2.2.2.2 (i + 4)), .int (E.2.2.2.2.2.2 (i + 5))]) hf0 rfl fb_H_span lk_La_114 im_H_span se_H_span con1 rfl rfl (Nat.le_of_ble_eq_true rfl) (by decide) (by decide) (Nat.le_of_ble_eq_true rfl) (Nat.le_of_ble_eq_true rfl) d_La_law_848 (fun v h1 hp => ?_)
  obtain ⟨⟨-, ⟨f1, hf1⟩⟩, ⟨u, rfl⟩, P2, con2, hP2⟩ := hP1 v h1 hp
  refine a_aload_n X 2 d_La_law_851 rfl rfl ?_
  refine a_aload_n X 0 d_La_law_852 rfl rfl ?_
  refine a_iload_n X 3 d_La_law_853 rfl rfl ?_
  refine a_iconst X (v := nI 1) d_La_law_854 (by decide) ?_
  refine a_iadd X d_La_law_855 ?_
  refine ab_topi (nI_add _ _) ?_
  refine a_sld X d_La_law_856 (ab_ix_nI (j := i + 1) (by omega) (by omega)) ?_
  refine a_aload_n X 0 d_La_law_857 rfl rfl ?_
  refine a_iload_n X 3 d_La_law_858 rfl rfl ?_
  refine a_iconst X (v := nI 2) d_La_law_859 (by decide) ?_
  refine a_iadd X d_La_law_860 ?_
  refine ab_topi (nI_add _ _) ?_
  refine a_sld X d_La_law_861 (ab_ix_nI (j := i + 2) (by omega) (by omega)) ?_
  refine a_aload_n X 0 d_La_law_862 rfl rfl ?_
  refine a_iload_n X 3 d_La_law_863 rfl rfl ?_
  refine a_iconst X (v := nI 3) d_La_law_864 (by decide) ?_
  refine a_iadd X d_La_law_865 ?_
  refine ab_topi (nI_add _ _) ?_
  refine a_sld X d_La_law_866 (ab_ix_nI (j := i + 3) (by omega) (by omega)) ?_
  refine a_aload_n X 0 d_La_law_867 rfl rfl ?_
  refine a_iload_n X 3 d_La_law_868 rfl rfl ?_
  refine a_iconst X (v := nI 4) d_La_law_869 (by decide) ?_
  refine a_iadd X d_La_law_870 ?_
  refine ab_topi (nI_add _ _) ?_
  refine a_sld X d_La_law_871 (ab_ix_nI (j := i + 4) (by omega) (by omega)) ?_
  refine a_aload_n X 0 d_La_law_872 rfl rfl ?_
  refine a_iload_n X 3 d_La_law_873 rfl rfl ?_
  refine a_iconst X (v := nI 5) d_La_law_874 (by decide) ?_
  refine a_iadd X d_La_law_875 ?_
  refine ab_topi (nI_add _ _) ?_
  refine a_sld X d_La_law_876 (ab_ix_nI (j := i + 5) (by omega) (by omega)) ?_
  refine a_callV X (a := 203) (As := [.int (E.2.2.2.2.2.2 (i + 1)), .int (E.2.2.2.2.2.2 (i + 2)), .int (E.2.2.2.2.2.2 (i + 3)), .int (E.2.2.2.2.2.2 (i + 4)), .int (E.2.2.2.2.2.2 (i + 5))]) hf1 rfl fb_Mo_span lk_La_118 im_Mo_span se_Mo_span con2 rfl rfl (Nat.le_of_ble_eq_true rfl) (by decide) (by decide) (Nat.le_of_ble_eq_true rfl) (Nat.le_of_ble_eq_true rfl) d_La_law_877 (fun v2 h2 hp2 => ?_)
  obtain ⟨rfl, hs2⟩ := hP2 v2 h2 hp2
  refine a_lcmp X d_La_law_880 ?_
  exact a_if_eq X 886 d_La_law_881 (by decide) (fun _ => kk h2 hs2) (fun c => absurd (lg_self _) c)
theorem and31 (y : Int32) : ∃ j, j < 32 ∧ y &&& nI 31 = nI j := by
  refine ⟨(y &&& nI 31).toBitVec.toNat, ?_, ?_⟩
  · have e : (y &&& nI 31).toBitVec = y.toBitVec &&& 31#32 := rfl
    rw [e, BitVec.toNat_and]
    have h : (31#32).toNat = 2 ^ 5 - 1 := rfl
    rw [h, Nat.and_two_pow_sub_one_eq_mod]
    exact Nat.mod_lt _ (by decide)
  · apply Int32.toBitVec_inj.mp
    show _ = BitVec.ofNat 32 _
    rw [BitVec.ofNat_toNat, BitVec.setWidth_eq]
theorem sA_0 : sA (hc0 ++ i_Mo 203) := ⟨_, _, _, _, _, _, _, _, (0, fun _ => 0, fun _ => 0), (0, fun _ => 0, fun _ => 0), (0, fun _ => nI 0, fun _ => nI 0), fun _ => nI 0, (0, 0, 0, fun _ => 0, fun _ => 0, fun _ => 0, 0, fun _ => 0, fun _ => nI 0), (0, fun _ => nI 0), (fun _ => 0, fun _ => 0, fun _ => 0), (fun _ => nI 0, fun _ => nI 0, fun _ => nI 0), rfl, relA_0⟩
set_option maxHeartbeats 8000000 in
set_option maxRecDepth 40000 in
theorem law_R {E : ab_E} {l : Launch} {G : Heap → List Loc → Nat → Nat → JFrame → Prop} {m : MethodId} (X : LX E l G m) (hL : E.2.2.2.2.2.1 ≤ 3072) (hend : ∀ (ce sl : Nat) (lv : List (Nat × Value)) (h : List ab_C), ce ≤ 600000 → sl ≤ 7302250 → ab_R E G m 4 ce sl 893 lv [.int (nI 1)] h) : ab_R E G m 4 0 0 0 [(0, .ref 0)] [] [] := by
  refine n_new X (n := 0) rfl nn_La_7 d_La_law_0 (Nat.le_of_ble_eq_true rfl) (Nat.le_of_ble_eq_true rfl) ?_
  refine a_dup X d_La_law_3 rfl ?_
  refine a_callI X (a := 0) (As := []) fb_H_init lk_La_9 im_H_init rfl c_H_init rfl rfl (by decide) (by decide) (by decide) (Nat.le_of_ble_eq_true rfl) (Nat.le_of_ble_eq_true rfl) d_La_law_4 (fun v h1 hp => ?_)
  obtain ⟨rfl, rfl⟩ := hp
  refine a_astore_n X 1 d_La_law_7 rfl (by decide) ?_
  refine n_new X (n := 203) rfl nn_La_10 d_La_law_8 (Nat.le_of_ble_eq_true rfl) (Nat.le_of_ble_eq_true rfl) ?_
  refine a_dup X d_La_law_11 rfl ?_
  refine a_callI X (a := 203) (As := []) fb_Mo_init lk_La_12 im_Mo_init rfl (c_Mo_init (Z := hc0) (z := 203) rfl) rfl rfl (by decide) (by decide) (by decide) (Nat.le_of_ble_eq_true rfl) (Nat.le_of_ble_eq_true rfl) d_La_law_12 (fun v h1 hp => ?_)
  obtain ⟨rfl, rfl⟩ := hp
  refine a_astore_n X 2 d_La_law_15 rfl (by decide) ?_
  refine a_iconst X (v := nI 0) d_La_law_16 (by decide) ?_
  refine a_istore_n X 3 d_La_law_17 rfl (by decide) ?_
  refine ab_sub [(0, .ref 0), (1, .ref 1), (2, .ref 204), (3, .int (nI 0))] rfl ?_
  suffices LP : ∀ (mm i : Nat) (h : List ab_C), i ≤ E.2.2.2.2.2.1 + 6 → E.2.2.2.2.2.1 + 6 - i < mm → sA h → ab_R E G m 4 223 2618 18 [(0, .ref 0), (1, .ref 1), (2, .ref 204), (3, .int (nI i))] [] h from LP (E.2.2.2.2.2.1 + 7) 0 _ (by omega) (by omega) sA_0
  intro mm
  induction mm with
  | zero => intro i h h1 h2; exfalso; omega
  | succ mm ih =>
    intro i h h1 h2 hs
    refine a_iload_n X 3 d_La_law_18 rfl rfl ?_
    refine a_aload_n X 0 d_La_law_19 rfl rfl ?_
    refine a_slen X d_La_law_20 ?_
    refine a_bipush X (v := nI 6) d_La_law_21 (by decide) ?_
    refine a_isub X d_La_law_23 ?_
    refine a_icmp_gt X 892 d_La_law_24 (by decide) (fun c24 => ?_) (fun c24 => ?_)
    · refine a_iconst X (v := nI 1) d_La_law_892 (by decide) ?_
      exact hend _ _ _ h (Nat.le_of_ble_eq_true rfl) (Nat.le_of_ble_eq_true rfl)
    · have hi : i + 6 ≤ E.2.2.2.2.2.1 := by
        rw [Int32.lt_iff_toInt_lt, pk_sub_toInt (by omega) (by omega)] at c24
        have e1 : (nI i).toInt = (i : Int) := Int32.toInt_ofNat_of_lt (by omega)
        rw [e1] at c24
        omega
      have kk : ∀ h2, sA h2 → ab_R E G m 4 223 2618 886 [(0, .ref 0), (1, .ref 1), (2, .ref 204), (3, .int (nI i))] [] h2 := by
        intro h2 hs2
        refine a_iinc X (v := nI (i + 6)) d_La_law_886 rfl (nI_add i 6) (by decide) ?_
        refine a_goto X 18 d_La_law_889 (by decide) ?_
        exact ab_sub _ rfl (ih (i + 6) h2 (by omega) (by omega) hs2)
      refine a_aload_n X 0 d_La_law_27 rfl rfl ?_
      refine a_iload_n X 3 d_La_law_28 rfl rfl ?_
      refine a_sld X d_La_law_29 (ab_ix_nI (j := i) (by omega) (by omega)) ?_
      refine a_bipush X (v := nI 31) d_La_law_30 (by decide) ?_
      refine a_iand X d_La_law_32 ?_
      obtain ⟨j, hj, ej⟩ := and31 (E.2.2.2.2.2.2 i)
      rw [ej]
      rcases Nat.lt_or_ge j 24 with g | g
      · rcases (show j = 0 ∨ j = 1 ∨ j = 2 ∨ j = 3 ∨ j = 4 ∨ j = 5 ∨ j = 6 ∨ j = 7 ∨ j = 8 ∨ j = 9 ∨ j = 10 ∨ j = 11 ∨ j = 12 ∨ j = 13 ∨ j = 14 ∨ j = 15 ∨ j = 16 ∨ j = 17 ∨ j = 18 ∨ j = 19 ∨ j = 20 ∨ j = 21 ∨ j = 22 ∨ j = 23 by omega) with rfl | rfl | rfl | rfl | rfl | rfl | rfl | rfl | rfl | rfl | rfl | rfl | rfl | rfl | rfl | rfl | rfl | rfl | rfl | rfl | rfl | rfl | rfl | rfl
        · exact a_tabIn X 144 d_La_law_33 (by decide) (by decide) rfl (by decide) (law_state X hL hi hs kk)
        · exact a_tabIn X 157 d_La_law_33 (by decide) (by decide) rfl (by decide) (law_weight X hL hi hs kk)
        · exact a_tabIn X 200 d_La_law_33 (by decide) (by decide) rfl (by decide) (law_move X hL hi hs kk)
        · exact a_tabIn X 243 d_La_law_33 (by decide) (by decide) rfl (by decide) (law_kind X hL hi hs kk)
        · exact a_tabIn X 256 d_La_law_33 (by decide) (by decide) rfl (by decide) (law_rule X hL hi hs kk)
        · exact a_tabIn X 309 d_La_law_33 (by decide) (by decide) rfl (by decide) (law_leaf X hL hi hs kk)
        · exact a_tabIn X 352 d_La_law_33 (by decide) (by decide) rfl (by decide) (law_sign X hL hi hs kk)
        · exact a_tabIn X 375 d_La_law_33 (by decide) (by decide) rfl (by decide) (law_clear X hL hi hs kk)
        · exact a_tabIn X 388 d_La_law_33 (by decide) (by decide) rfl (by decide) (law_hold X hL hi hs kk)
        · exact a_tabIn X 421 d_La_law_33 (by decide) (by decide) rfl (by decide) (law_total X hL hi hs kk)
        · exact a_tabIn X 435 d_La_law_33 (by decide) (by decide) rfl (by decide) (law_ways X hL hi hs kk)
        · exact a_tabIn X 448 d_La_law_33 (by decide) (by decide) rfl (by decide) (law_share X hL hi hs kk)
        · exact a_tabIn X 492 d_La_law_33 (by decide) (by decide) rfl (by decide) (law_begin X hL hi hs kk)
        · exact a_tabIn X 536 d_La_law_33 (by decide) (by decide) rfl (by decide) (law_pair X hL hi hs kk)
        · exact a_tabIn X 590 d_La_law_33 (by decide) (by decide) rfl (by decide) (law_top X hL hi hs kk)
        · exact a_tabIn X 613 d_La_law_33 (by decide) (by decide) rfl (by decide) (law_best X hL hi hs kk)
        · exact a_tabIn X 637 d_La_law_33 (by decide) (by decide) rfl (by decide) (law_bestAt X hL hi hs kk)
        · exact a_tabIn X 670 d_La_law_33 (by decide) (by decide) rfl (by decide) (law_drawn X hL hi hs kk)
        · exact a_tabIn X 694 d_La_law_33 (by decide) (by decide) rfl (by decide) (law_drawnAt X hL hi hs kk)
        · exact a_tabIn X 717 d_La_law_33 (by decide) (by decide) rfl (by decide) (law_trees X hL hi hs kk)
        · exact a_tabIn X 741 d_La_law_33 (by decide) (by decide) rfl (by decide) (law_treeCount X hL hi hs kk)
        · exact a_tabIn X 765 d_La_law_33 (by decide) (by decide) rfl (by decide) (law_treeBest X hL hi hs kk)
        · exact a_tabIn X 789 d_La_law_33 (by decide) (by decide) rfl (by decide) (law_treeAt X hL hi hs kk)
        · exact a_tabIn X 822 d_La_law_33 (by decide) (by decide) rfl (by decide) (law_span X hL hi hs kk)
      · refine a_tabOut X 886 d_La_law_33 (Or.inr ?_) (by decide) (kk h hs)
        have e1 : (nI j).toInt = (j : Int) := Int32.toInt_ofNat_of_lt (by omega)
        rw [e1]
        omega
