def ab_AOA (t : FieldType) (U : State) : Prop := (Cond.arrayOver (.array t)).before #[] U = true
theorem ab_AOA.moved {t : FieldType} {u U : State} (hvm : u.vm.Alike U.vm) (h : ab_AOA t u) : ab_AOA t U := by
  obtain ⟨comp, c, k, h1, h2, h3, h4, h5⟩ := arrayOverA_spec h
  obtain ⟨k', hk', he⟩ := hvm.2.2 _ _ h3
  have hi : (U.vm.classes.findIdx? fun (x : Class) => match x.kind with | .array component _ => component == comp | _ => false) = some c := by
    rw [hvm.findIdx?_eq _ (fun _ => rfl)]
    exact h2
  have hkind : k'.kind = .array comp (.array t) := by rw [he]; exact h4
  have f1 : U.vm.findClass (FieldType.array t).toString = some comp := by rw [hvm.findClass]; exact h1
  have f2 : U.vm.findClass ("[" ++ (FieldType.array t).toString) = some c := by rw [hvm.findClass]; exact h5
  unfold ab_AOA Cond.before Cond.holds
  simp only [Cond.value]
  rw [f1, Option.bind_some]
  refine (congrArg (fun o : Option Nat => (o.bind (fun c => (U.vm.classes[c]?).map fun (k : Class) => match k.kind with | .array _ ty => decide (ty = FieldType.array t) && decide (U.vm.findClass ("[" ++ (FieldType.array t).toString) = some c) | _ => false) == some true)) hi).trans ?_
  simp [hk', hkind, f2]
abbrev ab_C : Type := (Nat × vp_A) ⊕ (Nat × List Value)
abbrev ab_E : Type := va_G × (Nat → ClassId) × Nat × Nat × Heap × Nat × (Nat → Int32)
abbrev ab_n (E : ab_E) : Nat := E.2.2.2.1
def ab_ad (E : ab_E) : Nat → Nat
  | 0 => E.2.2.1
  | k + 1 => ab_n E + k
def ab_v (E : ab_E) : Value → Value
  | .ref k => .ref (ab_ad E k)
  | .int x => .int x
  | .long x => .long x
  | .null => .null
  | .float x => .float x
  | .double x => .double x
  | .retAddr x => .retAddr x
def ab_a (E : ab_E) (x : vp_A) : vp_A := (x.1, match x.2 with
  | .inl f => .inl f
  | .inr (.inl f) => .inr (.inl f)
  | .inr (.inr (.inl f)) => .inr (.inr (.inl f))
  | .inr (.inr (.inr (.inl f))) => .inr (.inr (.inr (.inl f)))
  | .inr (.inr (.inr (.inr f))) => .inr (.inr (.inr (.inr (fun i => (f i).map (ab_ad E))))))
def ab_c (E : ab_E) : ab_C → va_E
  | .inl q => .inl (E.2.1 q.1, ab_a E q.2)
  | .inr q => .inr (q.1, q.2.map (ab_v E))
def ab_H (E : ab_E) (h : List ab_C) (H : Heap) : Prop :=
  H.size = ab_n E + h.length ∧ (∀ (k : Nat) (x : ab_C), h[k]? = some x → va_at E.1 classes (ab_n E + k, ab_c E x) H) ∧ ∀ q : Nat, q < ab_n E → H[q]? = E.2.2.2.2.1[q]?
def ab_K (E : ab_E) (U : State) : Prop :=
  (∀ (c : Nat) (q : vw_C), classes[c]? = some q → u_Kn U q.1 q.2.1 q.2.2 (E.1.1 c) (E.1.2 c)) ∧ (∀ (t : Nat) (ty : FieldType), ab_tys[t]? = some ty → ArrOfT U (E.2.1 t) ty ∧ va_RA U (E.2.1 t) ty) ∧
  (∀ w : String × Nat × String × String × String × String, w ∈ ab_nf → va_Nw (.fieldLinkNest w.1 w.2.1 w.2.2.1 w.2.2.2.1 w.2.2.2.2.1 w.2.2.2.2.2) U) ∧ (∀ w : String × Nat × MethodName × String, w ∈ ab_nm → va_Nw (.methodLinkNest w.1 w.2.1 w.2.2.1 w.2.2.2) U) ∧
  (∀ C : String, C ∈ ab_ao → va_AO C U) ∧ (∀ t : FieldType, t ∈ ab_aa → ab_AOA t U) ∧
  va_X E.2.2.1 E.2.2.2.2.2.1 E.2.2.2.2.2.2 U E.2.2.2.2.1 ∧ E.2.2.1 < ab_n E
theorem ab_K.moved {E : ab_E} {s U : State} (hW : s.WarmedH U.vm) (h : ab_K E s) : ab_K E U := by
  obtain ⟨h1, h2, h3, h4, h5, h6, h7, h8⟩ := h
  have hvm := hW.alike
  exact ⟨fun c q hq => u_Kn_moved hvm (h1 c q hq), fun t ty ht => ⟨arrOfT_moved hvm (h2 t ty ht).1, (h2 t ty ht).2.moved hvm⟩, fun w hw => va_Nw.warmF hW (h3 w hw), fun w hw => va_Nw.warmM hW (h4 w hw), fun C hC => (h5 C hC).moved hvm, fun t ht => (h6 t ht).moved hvm, h7.moved hvm, h8⟩
theorem ab_K.same {E : ab_E} {s U : State} (hv : s.vm = U.vm) (h : ab_K E s) : ab_K E U := by
  obtain ⟨h1, h2, h3, h4, h5, h6, h7, h8⟩ := h
  have hvm : s.vm.Alike U.vm := hv ▸ Vm.Alike.refl s.vm
  exact ⟨fun c q hq => u_Kn_moved hvm (h1 c q hq), fun t ty ht => ⟨arrOfT_moved hvm (h2 t ty ht).1, (h2 t ty ht).2.moved hvm⟩, fun w hw => va_Nw.same rfl hv (h3 w hw), fun w hw => va_Nw.same rfl hv (h4 w hw), fun C hC => (h5 C hC).moved hvm, fun t ht => (h6 t ht).moved hvm, h7.moved hvm, h8⟩
theorem ab_K.va {E : ab_E} {s : State} (h : ab_K E s) : va_K E.1 classes [] s := ⟨h.1, fun k q h => by simp at h⟩
theorem ab_cat (E : ab_E) (v : Value) : (ab_v E v).category = v.category := by cases v <;> rfl
def ab_s1 (lv : List (Nat × Value)) (i : Nat) (v : Value) : List (Nat × Value) := (i, v) :: lv.filter (fun q => !(q.1 == i) && !(q.1 + 1 == i && q.2.category == 2))
def ab_s2 (lv : List (Nat × Value)) (i : Nat) (v : Value) : List (Nat × Value) := (i, v) :: lv.filter (fun q => !(q.1 == i) && (!(q.1 == i + 1) && !(q.1 + 1 == i && q.2.category == 2)))
abbrev ab_l (E : ab_E) (lv : List (Nat × Value)) : List (Nat × Value) := lv.map (fun q => (q.1, ab_v E q.2))
theorem ab_s1_map (E : ab_E) (lv : List (Nat × Value)) (i : Nat) (v : Value) : (i, ab_v E v) :: (ab_l E lv).filter (fun q => !(q.1 == i) && !(q.1 + 1 == i && q.2.category == 2)) = ab_l E (ab_s1 lv i v) := by
  show _ = (i, ab_v E v) :: ab_l E _
  congr 1
  rw [ab_l, List.filter_map]
  congr 1
  apply List.filter_congr
  intro q _
  simp [ab_cat]
theorem ab_s2_map (E : ab_E) (lv : List (Nat × Value)) (i : Nat) (v : Value) : (i, ab_v E v) :: (ab_l E lv).filter (fun q => !(q.1 == i) && (!(q.1 == i + 1) && !(q.1 + 1 == i && q.2.category == 2))) = ab_l E (ab_s2 lv i v) := by
  show _ = (i, ab_v E v) :: ab_l E _
  congr 1
  rw [ab_l, List.filter_map]
  congr 1
  apply List.filter_congr
  intro q _
  simp [ab_cat]
theorem ab_lu {lv : List (Nat × Value)} {i : Nat} {v : Value} (h : lv.lookup i = some v) : (i, v) ∈ lv := by
  induction lv with
  | nil => simp at h
  | cons q t ih =>
    obtain ⟨j, w⟩ := q
    rw [List.lookup_cons] at h
    by_cases e : i = j
    · subst e
      simp at h
      subst h
      exact List.mem_cons_self
    · rw [show (i == j) = false from by simp [e]] at h
      exact List.mem_cons_of_mem _ (ih h)
theorem ab_lv {E : ab_E} {ls : Array Slot} {nL : Nat} {lv : List (Nat × Value)} {i : Nat} {v : Value} (h : lv_has ls nL (ab_l E lv)) (hl : lv.lookup i = some v) : ls[i]? = some (.val (ab_v E v)) :=
  h.2.2 (i, ab_v E v) (List.mem_map.mpr ⟨(i, v), ab_lu hl, rfl⟩)
theorem ab_H.set {E : ab_E} {h : List ab_C} {H H1 : Heap} {a : Nat} {x : ab_C} (hH : ab_H E h H) (hat : va_at E.1 classes (ab_n E + a, ab_c E x) H1) (hz : H1.size = H.size) (ho : ∀ q : Nat, q ≠ ab_n E + a → H1[q]? = H[q]?) : ab_H E (h.set a x) H1 := by
  obtain ⟨h1, h2, h3⟩ := hH
  refine ⟨by rw [hz, h1, List.length_set], fun k y hk => ?_, fun q hq => by rw [ho q (by omega)]; exact h3 q hq⟩
  by_cases e : k = a
  · subst e
    rw [List.getElem?_set_self'] at hk
    cases hx : h[k]? with
    | none => rw [hx] at hk; simp at hk
    | some z =>
      rw [hx] at hk
      simp at hk
      subst hk
      exact hat
  · rw [List.getElem?_set_ne (Ne.symm e)] at hk
    exact (h2 k y hk).kept (ho _ (by show ab_n E + k ≠ ab_n E + a; omega))
theorem ab_H.push {E : ab_E} {h : List ab_C} {H H1 : Heap} {x : ab_C} (hH : ab_H E h H) (hat : va_at E.1 classes (ab_n E + h.length, ab_c E x) H1) (hz : H1.size = H.size + 1) (ho : ∀ q : Nat, q < H.size → H1[q]? = H[q]?) : ab_H E (h ++ [x]) H1 := by
  obtain ⟨h1, h2, h3⟩ := hH
  refine ⟨by rw [hz, h1, List.length_append]; rfl, fun k y hk => ?_, fun q hq => by rw [ho q (by omega)]; exact h3 q hq⟩
  by_cases e : k < h.length
  · rw [List.getElem?_append_left e] at hk
    exact (h2 k y hk).kept (ho _ (by show ab_n E + k < H.size; omega))
  · rw [List.getElem?_append_right (by omega)] at hk
    have hz : k - h.length < 1 := (List.getElem?_eq_some_iff.mp hk).1
    rw [show k - h.length = 0 by omega] at hk
    cases hk
    rw [show k = h.length by omega]
    exact hat
theorem ab_H.pushes {E : ab_E} {h k : List ab_C} {H H1 : Heap} (hH : ab_H E h H) (hat : ∀ (j : Nat) (x : ab_C), k[j]? = some x → va_at E.1 classes (ab_n E + (h.length + j), ab_c E x) H1) (hz : H1.size = H.size + k.length) (ho : ∀ q : Nat, q < H.size → H1[q]? = H[q]?) : ab_H E (h ++ k) H1 := by
  obtain ⟨h1, h2, h3⟩ := hH
  refine ⟨by rw [hz, h1, List.length_append]; omega, fun i y hk => ?_, fun q hq => by rw [ho q (by omega)]; exact h3 q hq⟩
  by_cases e : i < h.length
  · rw [List.getElem?_append_left e] at hk
    exact (h2 i y hk).kept (ho _ (by show ab_n E + i < H.size; omega))
  · rw [List.getElem?_append_right (by omega)] at hk
    have := hat _ y hk
    rw [show h.length + (i - h.length) = i by omega] at this
    exact this
def ab_P (E : ab_E) (av : List Value) (h : List ab_C) : Array Value → State → Prop := fun a U => a = (av.map (ab_v E)).toArray ∧ ab_H E h U.heap ∧ ab_K E U
def ab_Q (E : ab_E) (Post : Option Value → List ab_C → Prop) : Array Value → State → Outcome → State → Prop := fun _ _ o t => ∃ (r : Option Value) (h1 : List ab_C), o = .returned (r.map (ab_v E)) ∧ Post r h1 ∧ ab_H E h1 t.heap
def ab_Con (E : ab_E) (l : Launch) (y : MethodName) (bytes : ByteArray) (maxL : Nat) (ret : Option FieldType) (fr lo : Nat) (av : List Value) (h : List ab_C) (mc ms : Nat) (Post : Option Value → List ab_C → Prop) : Prop :=
  Met l y (.code y bytes maxL ret :: ab_tbl) { frames := fr, cells := mc, slots := ms, locals := lo } (ab_P E av h) (ab_Q E Post) mc ms (fun q => ab_n E ≤ q)
def ab_R (E : ab_E) (G : Heap → List Loc → Nat → Nat → JFrame → Prop) (m : MethodId) (nL ce sl pc : Nat) (lv : List (Nat × Value)) (st : List Value) (h : List ab_C) : Prop :=
  ∀ (H : Heap) (locs : List Loc) (ls : Array Slot), ab_H E h H → (∀ q ∈ locs, ab_n E ≤ q.base) → lv_has ls nL (ab_l E lv) → G H locs ce sl (F0 m pc ls (st.map (ab_v E)))
def ab_X (E : ab_E) (l : Launch) (G : Heap → List Loc → Nat → Nat → JFrame → Prop) (m : MethodId) (cc : ByteArray) (nL : Nat) (own : String) (ini : Bool) (ret : Option FieldType) (fr lo mc ms : Nat) (Post : Option (Option Value → List ab_C → Prop)) : Prop :=
  ∃ (p : Program) (e : Env) (s : State) (args : Array Value) (below : List Frame) (meth : Method) (c : Code) (R : Room) (Q : State → Prop), G = (fun H locs ce sl g => W p l e R s m args below meth c H locs ce sl Q g) ∧
    (∀ P, Post = some P → Q = MQ below (ab_Q E P) args s mc ms (fun q => ab_n E ≤ q)) ∧
    p.tables.exec = Jvm.exec ∧ c.code = cc ∧ c.maxLocals = nL ∧ s.vm.findClass own = some m.cls ∧ (∀ w ∈ ab_tbl, w.before args s = true) ∧ meth.sig.returnType = ret ∧ meth.locks = false ∧ ab_K E s ∧ R.frames = fr ∧ R.locals = lo ∧ R.cells = mc ∧ R.slots = ms ∧ (ini = true → meth.name = "<init>")
section ABR
variable {E : ab_E} {l : Launch} {G : Heap → List Loc → Nat → Nat → JFrame → Prop} {m : MethodId} {cc : ByteArray} {nL : Nat} {own : String} {ini : Bool} {ret : Option FieldType} {fr lo mc ms : Nat} {Post : Option (Option Value → List ab_C → Prop)} {ce sl pc : Nat} {lv : List (Nat × Value)} {st : List Value} {h : List ab_C}
theorem ab_sub (lv' : List (Nat × Value)) (hl : lv'.map (fun q => lv.lookup q.1) = lv'.map (fun q => some q.2)) (kk : ab_R E G m nL ce sl pc lv' st h) : ab_R E G m nL ce sl pc lv st h := by
  intro H locs ls hH hL hls
  refine kk H locs ls hH hL ⟨hls.1, hls.2.1, fun q hq => ?_⟩
  obtain ⟨r, hr, rfl⟩ := List.mem_map.mp hq
  refine ab_lv (v := r.2) hls ?_
  obtain ⟨i, hi⟩ := List.getElem?_of_mem hr
  have h1 := congrArg (fun z => z[i]?) hl
  simp only [List.getElem?_map, hi, Option.map_some] at h1
  exact Option.some.inj h1
theorem ab_st {st' : List Value} (e : st = st') (kk : ab_R E G m nL ce sl pc lv st' h) : ab_R E G m nL ce sl pc lv st h := e ▸ kk
theorem ab_hp {h' : List ab_C} (e : h = h') (kk : ab_R E G m nL ce sl pc lv st h') : ab_R E G m nL ce sl pc lv st h := e ▸ kk
theorem a_iconst (X : ab_X E l G m cc nL own ini ret fr lo mc ms Post) {n : Int} {v : Int32} (d : decode cc pc = .ok (.iconst n, 1)) (hv : Int32.ofInt n = v) (kk : ab_R E G m nL ce sl (pc + 1) lv (.int v :: st) h) : ab_R E G m nL ce sl pc lv st h := by
  obtain ⟨p, e, s, args, below, meth, c, R, Q, rfl, hQ, hx, hb, hml, hown, hts, hr, hlk, hK, r1, r2, r3, r4, hini⟩ := X
  intro H locs ls hH hL hls
  exact lv_iconst hx hb d hv (kk H locs ls hH hL hls)
theorem a_bipush (X : ab_X E l G m cc nL own ini ret fr lo mc ms Post) {n : Int} {v : Int32} (d : decode cc pc = .ok (.bipush n, 2)) (hv : (Int8.ofInt n).toInt32 = v) (kk : ab_R E G m nL ce sl (pc + 2) lv (.int v :: st) h) : ab_R E G m nL ce sl pc lv st h := by
  obtain ⟨p, e, s, args, below, meth, c, R, Q, rfl, hQ, hx, hb, hml, hown, hts, hr, hlk, hK, r1, r2, r3, r4, hini⟩ := X
  intro H locs ls hH hL hls
  exact lv_bipush hx hb d hv (kk H locs ls hH hL hls)
theorem a_sipush (X : ab_X E l G m cc nL own ini ret fr lo mc ms Post) {n : Int} {v : Int32} (d : decode cc pc = .ok (.sipush n, 3)) (hv : (Int16.ofInt n).toInt32 = v) (kk : ab_R E G m nL ce sl (pc + 3) lv (.int v :: st) h) : ab_R E G m nL ce sl pc lv st h := by
  obtain ⟨p, e, s, args, below, meth, c, R, Q, rfl, hQ, hx, hb, hml, hown, hts, hr, hlk, hK, r1, r2, r3, r4, hini⟩ := X
  intro H locs ls hH hL hls
  exact lv_sipush hx hb d hv (kk H locs ls hH hL hls)
theorem a_lconst (X : ab_X E l G m cc nL own ini ret fr lo mc ms Post) {n : Fin 2} {v : Int64} (d : decode cc pc = .ok (.lconst n, 1)) (hv : Int64.ofNat n = v) (kk : ab_R E G m nL ce sl (pc + 1) lv (.long v :: st) h) : ab_R E G m nL ce sl pc lv st h := by
  obtain ⟨p, e, s, args, below, meth, c, R, Q, rfl, hQ, hx, hb, hml, hown, hts, hr, hlk, hK, r1, r2, r3, r4, hini⟩ := X
  intro H locs ls hH hL hls
  exact lv_lconst hx hb d hv (kk H locs ls hH hL hls)
theorem a_iload_n (X : ab_X E l G m cc nL own ini ret fr lo mc ms Post) {k : Fin 4} {x : Int32} (i : Nat) (d : decode cc pc = .ok (.iload_n k, 1)) (hi : (k : Nat) = i) (hl : lv.lookup i = some (.int x)) (kk : ab_R E G m nL ce sl (pc + 1) lv (.int x :: st) h) : ab_R E G m nL ce sl pc lv st h := by
  obtain ⟨p, e, s, args, below, meth, c, R, Q, rfl, hQ, hx, hb, hml, hown, hts, hr, hlk, hK, r1, r2, r3, r4, hini⟩ := X
  intro H locs ls hH hL hls
  exact lv_iload_n hx hb d hi (ab_lv hls hl) (kk H locs ls hH hL hls)
theorem a_iload (X : ab_X E l G m cc nL own ini ret fr lo mc ms Post) {i : Nat} {x : Int32} (d : decode cc pc = .ok (.iload i, 2)) (hl : lv.lookup i = some (.int x)) (kk : ab_R E G m nL ce sl (pc + 2) lv (.int x :: st) h) : ab_R E G m nL ce sl pc lv st h := by
  obtain ⟨p, e, s, args, below, meth, c, R, Q, rfl, hQ, hx, hb, hml, hown, hts, hr, hlk, hK, r1, r2, r3, r4, hini⟩ := X
  intro H locs ls hH hL hls
  exact lv_iload hx hb d (ab_lv hls hl) (kk H locs ls hH hL hls)
theorem a_lload_n (X : ab_X E l G m cc nL own ini ret fr lo mc ms Post) {k : Fin 4} {x : Int64} (i : Nat) (d : decode cc pc = .ok (.lload_n k, 1)) (hi : (k : Nat) = i) (hl : lv.lookup i = some (.long x)) (kk : ab_R E G m nL ce sl (pc + 1) lv (.long x :: st) h) : ab_R E G m nL ce sl pc lv st h := by
  obtain ⟨p, e, s, args, below, meth, c, R, Q, rfl, hQ, hx, hb, hml, hown, hts, hr, hlk, hK, r1, r2, r3, r4, hini⟩ := X
  intro H locs ls hH hL hls
  exact lv_lload_n hx hb d hi (ab_lv hls hl) (kk H locs ls hH hL hls)
theorem a_lload (X : ab_X E l G m cc nL own ini ret fr lo mc ms Post) {i : Nat} {x : Int64} (d : decode cc pc = .ok (.lload i, 2)) (hl : lv.lookup i = some (.long x)) (kk : ab_R E G m nL ce sl (pc + 2) lv (.long x :: st) h) : ab_R E G m nL ce sl pc lv st h := by
  obtain ⟨p, e, s, args, below, meth, c, R, Q, rfl, hQ, hx, hb, hml, hown, hts, hr, hlk, hK, r1, r2, r3, r4, hini⟩ := X
  intro H locs ls hH hL hls
  exact lv_lload hx hb d (ab_lv hls hl) (kk H locs ls hH hL hls)
theorem a_aload_n (X : ab_X E l G m cc nL own ini ret fr lo mc ms Post) {k : Fin 4} {x : Nat} (i : Nat) (d : decode cc pc = .ok (.aload_n k, 1)) (hi : (k : Nat) = i) (hl : lv.lookup i = some (.ref x)) (kk : ab_R E G m nL ce sl (pc + 1) lv (.ref x :: st) h) : ab_R E G m nL ce sl pc lv st h := by
  obtain ⟨p, e, s, args, below, meth, c, R, Q, rfl, hQ, hx, hb, hml, hown, hts, hr, hlk, hK, r1, r2, r3, r4, hini⟩ := X
  intro H locs ls hH hL hls
  exact lv_aload_n hx hb d hi (ab_lv hls hl) (kk H locs ls hH hL hls)
theorem a_aload (X : ab_X E l G m cc nL own ini ret fr lo mc ms Post) {i : Nat} {x : Nat} (d : decode cc pc = .ok (.aload i, 2)) (hl : lv.lookup i = some (.ref x)) (kk : ab_R E G m nL ce sl (pc + 2) lv (.ref x :: st) h) : ab_R E G m nL ce sl pc lv st h := by
  obtain ⟨p, e, s, args, below, meth, c, R, Q, rfl, hQ, hx, hb, hml, hown, hts, hr, hlk, hK, r1, r2, r3, r4, hini⟩ := X
  intro H locs ls hH hL hls
  exact lv_aload hx hb d (ab_lv hls hl) (kk H locs ls hH hL hls)
theorem a_istore_n (X : ab_X E l G m cc nL own ini ret fr lo mc ms Post) {k : Fin 4} {x : Int32} (i : Nat) (d : decode cc pc = .ok (.istore_n k, 1)) (hi : (k : Nat) = i) (hn : i < nL) (kk : ab_R E G m nL ce sl (pc + 1) (ab_s1 lv i (.int x)) st h) : ab_R E G m nL ce sl pc lv (.int x :: st) h := by
  obtain ⟨p, e, s, args, below, meth, c, R, Q, rfl, hQ, hx, hb, hml, hown, hts, hr, hlk, hK, r1, r2, r3, r4, hini⟩ := X
  intro H locs ls hH hL hls
  exact lv_istore_n hx hb d hi hls hn (ab_s1_map E lv i (.int x)) (fun ls' hls' => kk H locs ls' hH hL hls')
theorem a_istore (X : ab_X E l G m cc nL own ini ret fr lo mc ms Post) {i : Nat} {x : Int32} (d : decode cc pc = .ok (.istore i, 2)) (hn : i < nL) (kk : ab_R E G m nL ce sl (pc + 2) (ab_s1 lv i (.int x)) st h) : ab_R E G m nL ce sl pc lv (.int x :: st) h := by
  obtain ⟨p, e, s, args, below, meth, c, R, Q, rfl, hQ, hx, hb, hml, hown, hts, hr, hlk, hK, r1, r2, r3, r4, hini⟩ := X
  intro H locs ls hH hL hls
  exact lv_istore hx hb d hls hn (ab_s1_map E lv i (.int x)) (fun ls' hls' => kk H locs ls' hH hL hls')
theorem a_lstore_n (X : ab_X E l G m cc nL own ini ret fr lo mc ms Post) {k : Fin 4} {x : Int64} (i : Nat) (d : decode cc pc = .ok (.lstore_n k, 1)) (hi : (k : Nat) = i) (hn : i + 1 < nL) (kk : ab_R E G m nL ce sl (pc + 1) (ab_s2 lv i (.long x)) st h) : ab_R E G m nL ce sl pc lv (.long x :: st) h := by
  obtain ⟨p, e, s, args, below, meth, c, R, Q, rfl, hQ, hx, hb, hml, hown, hts, hr, hlk, hK, r1, r2, r3, r4, hini⟩ := X
  intro H locs ls hH hL hls
  exact lv_lstore_n hx hb d hi hls hn (ab_s2_map E lv i (.long x)) (fun ls' hls' => kk H locs ls' hH hL hls')
theorem a_lstore (X : ab_X E l G m cc nL own ini ret fr lo mc ms Post) {i : Nat} {x : Int64} (d : decode cc pc = .ok (.lstore i, 2)) (hn : i + 1 < nL) (kk : ab_R E G m nL ce sl (pc + 2) (ab_s2 lv i (.long x)) st h) : ab_R E G m nL ce sl pc lv (.long x :: st) h := by
  obtain ⟨p, e, s, args, below, meth, c, R, Q, rfl, hQ, hx, hb, hml, hown, hts, hr, hlk, hK, r1, r2, r3, r4, hini⟩ := X
  intro H locs ls hH hL hls
  exact lv_lstore hx hb d hls hn (ab_s2_map E lv i (.long x)) (fun ls' hls' => kk H locs ls' hH hL hls')
theorem a_astore_n (X : ab_X E l G m cc nL own ini ret fr lo mc ms Post) {k : Fin 4} {x : Nat} (i : Nat) (d : decode cc pc = .ok (.astore_n k, 1)) (hi : (k : Nat) = i) (hn : i < nL) (kk : ab_R E G m nL ce sl (pc + 1) (ab_s1 lv i (.ref x)) st h) : ab_R E G m nL ce sl pc lv (.ref x :: st) h := by
  obtain ⟨p, e, s, args, below, meth, c, R, Q, rfl, hQ, hx, hb, hml, hown, hts, hr, hlk, hK, r1, r2, r3, r4, hini⟩ := X
  intro H locs ls hH hL hls
  exact lv_astore_n hx hb d hi hls hn (ab_s1_map E lv i (.ref x)) (fun ls' hls' => kk H locs ls' hH hL hls')
theorem a_astore (X : ab_X E l G m cc nL own ini ret fr lo mc ms Post) {i : Nat} {x : Nat} (d : decode cc pc = .ok (.astore i, 2)) (hn : i < nL) (kk : ab_R E G m nL ce sl (pc + 2) (ab_s1 lv i (.ref x)) st h) : ab_R E G m nL ce sl pc lv (.ref x :: st) h := by
  obtain ⟨p, e, s, args, below, meth, c, R, Q, rfl, hQ, hx, hb, hml, hown, hts, hr, hlk, hK, r1, r2, r3, r4, hini⟩ := X
  intro H locs ls hH hL hls
  exact lv_astore hx hb d hls hn (ab_s1_map E lv i (.ref x)) (fun ls' hls' => kk H locs ls' hH hL hls')
theorem a_iinc (X : ab_X E l G m cc nL own ini ret fr lo mc ms Post) {i : Nat} {n : Int} {x v : Int32} (d : decode cc pc = .ok (.iinc i n, 3)) (hl : lv.lookup i = some (.int x)) (hv : x + Int32.ofInt n = v) (hn : i < nL) (kk : ab_R E G m nL ce sl (pc + 3) (ab_s1 lv i (.int v)) st h) : ab_R E G m nL ce sl pc lv st h := by
  obtain ⟨p, e, s, args, below, meth, c, R, Q, rfl, hQ, hx, hb, hml, hown, hts, hr, hlk, hK, r1, r2, r3, r4, hini⟩ := X
  intro H locs ls hH hL hls
  obtain ⟨j, hj⟩ := List.getElem?_of_mem (ab_lu hl)
  exact lv_iinc (k := j) hx hb d hls (by rw [List.getElem?_map, hj]; rfl) hv hn (ab_s1_map E lv i (.int v)) (fun ls' hls' => kk H locs ls' hH hL hls')
theorem a_iadd (X : ab_X E l G m cc nL own ini ret fr lo mc ms Post) {x y : Int32} (d : decode cc pc = .ok (.iadd, 1)) (kk : ab_R E G m nL ce sl (pc + 1) lv (.int (x + y) :: st) h) : ab_R E G m nL ce sl pc lv (.int y :: .int x :: st) h := by
  obtain ⟨p, e, s, args, below, meth, c, R, Q, rfl, hQ, hx, hb, hml, hown, hts, hr, hlk, hK, r1, r2, r3, r4, hini⟩ := X
  intro H locs ls hH hL hls
  exact lv_iadd hx hb d (kk H locs ls hH hL hls)
theorem a_isub (X : ab_X E l G m cc nL own ini ret fr lo mc ms Post) {x y : Int32} (d : decode cc pc = .ok (.isub, 1)) (kk : ab_R E G m nL ce sl (pc + 1) lv (.int (x - y) :: st) h) : ab_R E G m nL ce sl pc lv (.int y :: .int x :: st) h := by
  obtain ⟨p, e, s, args, below, meth, c, R, Q, rfl, hQ, hx, hb, hml, hown, hts, hr, hlk, hK, r1, r2, r3, r4, hini⟩ := X
  intro H locs ls hH hL hls
  exact lv_isub hx hb d (kk H locs ls hH hL hls)
theorem a_imul (X : ab_X E l G m cc nL own ini ret fr lo mc ms Post) {x y : Int32} (d : decode cc pc = .ok (.imul, 1)) (kk : ab_R E G m nL ce sl (pc + 1) lv (.int (x * y) :: st) h) : ab_R E G m nL ce sl pc lv (.int y :: .int x :: st) h := by
  obtain ⟨p, e, s, args, below, meth, c, R, Q, rfl, hQ, hx, hb, hml, hown, hts, hr, hlk, hK, r1, r2, r3, r4, hini⟩ := X
  intro H locs ls hH hL hls
  exact lv_imul hx hb d (kk H locs ls hH hL hls)
theorem a_iand (X : ab_X E l G m cc nL own ini ret fr lo mc ms Post) {x y : Int32} (d : decode cc pc = .ok (.iand, 1)) (kk : ab_R E G m nL ce sl (pc + 1) lv (.int (x &&& y) :: st) h) : ab_R E G m nL ce sl pc lv (.int y :: .int x :: st) h := by
  obtain ⟨p, e, s, args, below, meth, c, R, Q, rfl, hQ, hx, hb, hml, hown, hts, hr, hlk, hK, r1, r2, r3, r4, hini⟩ := X
  intro H locs ls hH hL hls
  exact lv_iand hx hb d (kk H locs ls hH hL hls)
theorem a_ior (X : ab_X E l G m cc nL own ini ret fr lo mc ms Post) {x y : Int32} (d : decode cc pc = .ok (.ior, 1)) (kk : ab_R E G m nL ce sl (pc + 1) lv (.int (x ||| y) :: st) h) : ab_R E G m nL ce sl pc lv (.int y :: .int x :: st) h := by
  obtain ⟨p, e, s, args, below, meth, c, R, Q, rfl, hQ, hx, hb, hml, hown, hts, hr, hlk, hK, r1, r2, r3, r4, hini⟩ := X
  intro H locs ls hH hL hls
  exact lv_ior hx hb d (kk H locs ls hH hL hls)
theorem a_ixor (X : ab_X E l G m cc nL own ini ret fr lo mc ms Post) {x y : Int32} (d : decode cc pc = .ok (.ixor, 1)) (kk : ab_R E G m nL ce sl (pc + 1) lv (.int (x ^^^ y) :: st) h) : ab_R E G m nL ce sl pc lv (.int y :: .int x :: st) h := by
  obtain ⟨p, e, s, args, below, meth, c, R, Q, rfl, hQ, hx, hb, hml, hown, hts, hr, hlk, hK, r1, r2, r3, r4, hini⟩ := X
  intro H locs ls hH hL hls
  exact lv_ixor hx hb d (kk H locs ls hH hL hls)
theorem a_ishl (X : ab_X E l G m cc nL own ini ret fr lo mc ms Post) {x y : Int32} (d : decode cc pc = .ok (.ishl, 1)) (kk : ab_R E G m nL ce sl (pc + 1) lv (.int (x <<< (y &&& 31)) :: st) h) : ab_R E G m nL ce sl pc lv (.int y :: .int x :: st) h := by
  obtain ⟨p, e, s, args, below, meth, c, R, Q, rfl, hQ, hx, hb, hml, hown, hts, hr, hlk, hK, r1, r2, r3, r4, hini⟩ := X
  intro H locs ls hH hL hls
  exact lv_ishl hx hb d (kk H locs ls hH hL hls)
theorem a_ishr (X : ab_X E l G m cc nL own ini ret fr lo mc ms Post) {x y : Int32} (d : decode cc pc = .ok (.ishr, 1)) (kk : ab_R E G m nL ce sl (pc + 1) lv (.int (x >>> (y &&& 31)) :: st) h) : ab_R E G m nL ce sl pc lv (.int y :: .int x :: st) h := by
  obtain ⟨p, e, s, args, below, meth, c, R, Q, rfl, hQ, hx, hb, hml, hown, hts, hr, hlk, hK, r1, r2, r3, r4, hini⟩ := X
  intro H locs ls hH hL hls
  exact lv_ishr hx hb d (kk H locs ls hH hL hls)
theorem a_idiv (X : ab_X E l G m cc nL own ini ret fr lo mc ms Post) {x y : Int32} (d : decode cc pc = .ok (.idiv, 1)) (hne : ¬ y = 0) (kk : ab_R E G m nL ce sl (pc + 1) lv (.int (x / y) :: st) h) : ab_R E G m nL ce sl pc lv (.int y :: .int x :: st) h := by
  obtain ⟨p, e, s, args, below, meth, c, R, Q, rfl, hQ, hx, hb, hml, hown, hts, hr, hlk, hK, r1, r2, r3, r4, hini⟩ := X
  intro H locs ls hH hL hls
  exact lv_idiv hx hb d hne (kk H locs ls hH hL hls)
theorem a_irem (X : ab_X E l G m cc nL own ini ret fr lo mc ms Post) {x y : Int32} (d : decode cc pc = .ok (.irem, 1)) (hne : ¬ y = 0) (kk : ab_R E G m nL ce sl (pc + 1) lv (.int (x - x / y * y) :: st) h) : ab_R E G m nL ce sl pc lv (.int y :: .int x :: st) h := by
  obtain ⟨p, e, s, args, below, meth, c, R, Q, rfl, hQ, hx, hb, hml, hown, hts, hr, hlk, hK, r1, r2, r3, r4, hini⟩ := X
  intro H locs ls hH hL hls
  exact lv_irem hx hb d hne (kk H locs ls hH hL hls)
theorem a_ineg (X : ab_X E l G m cc nL own ini ret fr lo mc ms Post) {x : Int32} (d : decode cc pc = .ok (.ineg, 1)) (kk : ab_R E G m nL ce sl (pc + 1) lv (.int (-x) :: st) h) : ab_R E G m nL ce sl pc lv (.int x :: st) h := by
  obtain ⟨p, e, s, args, below, meth, c, R, Q, rfl, hQ, hx, hb, hml, hown, hts, hr, hlk, hK, r1, r2, r3, r4, hini⟩ := X
  intro H locs ls hH hL hls
  exact lv_ineg hx hb d (kk H locs ls hH hL hls)
theorem a_ladd (X : ab_X E l G m cc nL own ini ret fr lo mc ms Post) {x y : Int64} (d : decode cc pc = .ok (.ladd, 1)) (kk : ab_R E G m nL ce sl (pc + 1) lv (.long (x + y) :: st) h) : ab_R E G m nL ce sl pc lv (.long y :: .long x :: st) h := by
  obtain ⟨p, e, s, args, below, meth, c, R, Q, rfl, hQ, hx, hb, hml, hown, hts, hr, hlk, hK, r1, r2, r3, r4, hini⟩ := X
  intro H locs ls hH hL hls
  exact lv_ladd hx hb d (kk H locs ls hH hL hls)
theorem a_lsub (X : ab_X E l G m cc nL own ini ret fr lo mc ms Post) {x y : Int64} (d : decode cc pc = .ok (.lsub, 1)) (kk : ab_R E G m nL ce sl (pc + 1) lv (.long (x - y) :: st) h) : ab_R E G m nL ce sl pc lv (.long y :: .long x :: st) h := by
  obtain ⟨p, e, s, args, below, meth, c, R, Q, rfl, hQ, hx, hb, hml, hown, hts, hr, hlk, hK, r1, r2, r3, r4, hini⟩ := X
  intro H locs ls hH hL hls
  exact lv_lsub hx hb d (kk H locs ls hH hL hls)
theorem a_lmul (X : ab_X E l G m cc nL own ini ret fr lo mc ms Post) {x y : Int64} (d : decode cc pc = .ok (.lmul, 1)) (kk : ab_R E G m nL ce sl (pc + 1) lv (.long (x * y) :: st) h) : ab_R E G m nL ce sl pc lv (.long y :: .long x :: st) h := by
  obtain ⟨p, e, s, args, below, meth, c, R, Q, rfl, hQ, hx, hb, hml, hown, hts, hr, hlk, hK, r1, r2, r3, r4, hini⟩ := X
  intro H locs ls hH hL hls
  exact lv_lmul hx hb d (kk H locs ls hH hL hls)
theorem a_land (X : ab_X E l G m cc nL own ini ret fr lo mc ms Post) {x y : Int64} (d : decode cc pc = .ok (.land, 1)) (kk : ab_R E G m nL ce sl (pc + 1) lv (.long (x &&& y) :: st) h) : ab_R E G m nL ce sl pc lv (.long y :: .long x :: st) h := by
  obtain ⟨p, e, s, args, below, meth, c, R, Q, rfl, hQ, hx, hb, hml, hown, hts, hr, hlk, hK, r1, r2, r3, r4, hini⟩ := X
  intro H locs ls hH hL hls
  exact lv_land hx hb d (kk H locs ls hH hL hls)
theorem a_lor (X : ab_X E l G m cc nL own ini ret fr lo mc ms Post) {x y : Int64} (d : decode cc pc = .ok (.lor, 1)) (kk : ab_R E G m nL ce sl (pc + 1) lv (.long (x ||| y) :: st) h) : ab_R E G m nL ce sl pc lv (.long y :: .long x :: st) h := by
  obtain ⟨p, e, s, args, below, meth, c, R, Q, rfl, hQ, hx, hb, hml, hown, hts, hr, hlk, hK, r1, r2, r3, r4, hini⟩ := X
  intro H locs ls hH hL hls
  exact lv_lor hx hb d (kk H locs ls hH hL hls)
theorem a_lxor (X : ab_X E l G m cc nL own ini ret fr lo mc ms Post) {x y : Int64} (d : decode cc pc = .ok (.lxor, 1)) (kk : ab_R E G m nL ce sl (pc + 1) lv (.long (x ^^^ y) :: st) h) : ab_R E G m nL ce sl pc lv (.long y :: .long x :: st) h := by
  obtain ⟨p, e, s, args, below, meth, c, R, Q, rfl, hQ, hx, hb, hml, hown, hts, hr, hlk, hK, r1, r2, r3, r4, hini⟩ := X
  intro H locs ls hH hL hls
  exact lv_lxor hx hb d (kk H locs ls hH hL hls)
theorem a_ldiv (X : ab_X E l G m cc nL own ini ret fr lo mc ms Post) {x y : Int64} (d : decode cc pc = .ok (.ldiv, 1)) (hne : ¬ y = 0) (kk : ab_R E G m nL ce sl (pc + 1) lv (.long (x / y) :: st) h) : ab_R E G m nL ce sl pc lv (.long y :: .long x :: st) h := by
  obtain ⟨p, e, s, args, below, meth, c, R, Q, rfl, hQ, hx, hb, hml, hown, hts, hr, hlk, hK, r1, r2, r3, r4, hini⟩ := X
  intro H locs ls hH hL hls
  exact lv_ldiv hx hb d hne (kk H locs ls hH hL hls)
theorem a_lrem (X : ab_X E l G m cc nL own ini ret fr lo mc ms Post) {x y : Int64} (d : decode cc pc = .ok (.lrem, 1)) (hne : ¬ y = 0) (kk : ab_R E G m nL ce sl (pc + 1) lv (.long (x - x / y * y) :: st) h) : ab_R E G m nL ce sl pc lv (.long y :: .long x :: st) h := by
  obtain ⟨p, e, s, args, below, meth, c, R, Q, rfl, hQ, hx, hb, hml, hown, hts, hr, hlk, hK, r1, r2, r3, r4, hini⟩ := X
  intro H locs ls hH hL hls
  exact lv_lrem hx hb d hne (kk H locs ls hH hL hls)
theorem a_lneg (X : ab_X E l G m cc nL own ini ret fr lo mc ms Post) {x : Int64} (d : decode cc pc = .ok (.lneg, 1)) (kk : ab_R E G m nL ce sl (pc + 1) lv (.long (-x) :: st) h) : ab_R E G m nL ce sl pc lv (.long x :: st) h := by
  obtain ⟨p, e, s, args, below, meth, c, R, Q, rfl, hQ, hx, hb, hml, hown, hts, hr, hlk, hK, r1, r2, r3, r4, hini⟩ := X
  intro H locs ls hH hL hls
  exact lv_lneg hx hb d (kk H locs ls hH hL hls)
theorem a_iushr (X : ab_X E l G m cc nL own ini ret fr lo mc ms Post) {x y : Int32} (d : decode cc pc = .ok (.iushr, 1)) (kk : ab_R E G m nL ce sl (pc + 1) lv (.int ((x.toUInt32 >>> (y.toUInt32 &&& Int32.toUInt32 31)).toInt32) :: st) h) : ab_R E G m nL ce sl pc lv (.int y :: .int x :: st) h := by
  obtain ⟨p, e, s, args, below, meth, c, R, Q, rfl, hQ, hx, hb, hml, hown, hts, hr, hlk, hK, r1, r2, r3, r4, hini⟩ := X
  intro H locs ls hH hL hls
  exact lv_iushr hx hb d rfl (kk H locs ls hH hL hls)
theorem a_lushr (X : ab_X E l G m cc nL own ini ret fr lo mc ms Post) {x : Int64} {y : Int32} (d : decode cc pc = .ok (.lushr, 1)) (kk : ab_R E G m nL ce sl (pc + 1) lv (.long ((x.toUInt64 >>> (y.toInt64.toUInt64 &&& Int64.toUInt64 63)).toInt64) :: st) h) : ab_R E G m nL ce sl pc lv (.int y :: .long x :: st) h := by
  obtain ⟨p, e, s, args, below, meth, c, R, Q, rfl, hQ, hx, hb, hml, hown, hts, hr, hlk, hK, r1, r2, r3, r4, hini⟩ := X
  intro H locs ls hH hL hls
  exact lv_lushr hx hb d rfl (kk H locs ls hH hL hls)
theorem a_lshl (X : ab_X E l G m cc nL own ini ret fr lo mc ms Post) {x : Int64} {y : Int32} (d : decode cc pc = .ok (.lshl, 1)) (kk : ab_R E G m nL ce sl (pc + 1) lv (.long (x <<< (y.toInt64 &&& 63)) :: st) h) : ab_R E G m nL ce sl pc lv (.int y :: .long x :: st) h := by
  obtain ⟨p, e, s, args, below, meth, c, R, Q, rfl, hQ, hx, hb, hml, hown, hts, hr, hlk, hK, r1, r2, r3, r4, hini⟩ := X
  intro H locs ls hH hL hls
  exact lv_lshl hx hb d rfl (kk H locs ls hH hL hls)
theorem a_lshr (X : ab_X E l G m cc nL own ini ret fr lo mc ms Post) {x : Int64} {y : Int32} (d : decode cc pc = .ok (.lshr, 1)) (kk : ab_R E G m nL ce sl (pc + 1) lv (.long (x >>> (y.toInt64 &&& 63)) :: st) h) : ab_R E G m nL ce sl pc lv (.int y :: .long x :: st) h := by
  obtain ⟨p, e, s, args, below, meth, c, R, Q, rfl, hQ, hx, hb, hml, hown, hts, hr, hlk, hK, r1, r2, r3, r4, hini⟩ := X
  intro H locs ls hH hL hls
  exact lv_lshr hx hb d rfl (kk H locs ls hH hL hls)
theorem a_i2l (X : ab_X E l G m cc nL own ini ret fr lo mc ms Post) {x : Int32} (d : decode cc pc = .ok (.i2l, 1)) (kk : ab_R E G m nL ce sl (pc + 1) lv (.long x.toInt64 :: st) h) : ab_R E G m nL ce sl pc lv (.int x :: st) h := by
  obtain ⟨p, e, s, args, below, meth, c, R, Q, rfl, hQ, hx, hb, hml, hown, hts, hr, hlk, hK, r1, r2, r3, r4, hini⟩ := X
  intro H locs ls hH hL hls
  exact lv_i2l hx hb d rfl (kk H locs ls hH hL hls)
theorem a_l2i (X : ab_X E l G m cc nL own ini ret fr lo mc ms Post) {x : Int64} (d : decode cc pc = .ok (.l2i, 1)) (kk : ab_R E G m nL ce sl (pc + 1) lv (.int x.toInt32 :: st) h) : ab_R E G m nL ce sl pc lv (.long x :: st) h := by
  obtain ⟨p, e, s, args, below, meth, c, R, Q, rfl, hQ, hx, hb, hml, hown, hts, hr, hlk, hK, r1, r2, r3, r4, hini⟩ := X
  intro H locs ls hH hL hls
  exact lv_l2i hx hb d rfl (kk H locs ls hH hL hls)
theorem a_lcmp (X : ab_X E l G m cc nL own ini ret fr lo mc ms Post) {x y : Int64} (d : decode cc pc = .ok (.lcmp, 1)) (kk : ab_R E G m nL ce sl (pc + 1) lv (.int (lg_cmp x y) :: st) h) : ab_R E G m nL ce sl pc lv (.long y :: .long x :: st) h := by
  obtain ⟨p, e, s, args, below, meth, c, R, Q, rfl, hQ, hx, hb, hml, hown, hts, hr, hlk, hK, r1, r2, r3, r4, hini⟩ := X
  intro H locs ls hH hL hls
  exact W.lcmp hx hb d (kk H locs ls hH hL hls)
theorem a_dup (X : ab_X E l G m cc nL own ini ret fr lo mc ms Post) {va : Value} (d : decode cc pc = .ok (.dup, 1)) (hva : va.category = 1) (kk : ab_R E G m nL ce sl (pc + 1) lv (va :: va :: st) h) : ab_R E G m nL ce sl pc lv (va :: st) h := by
  obtain ⟨p, e, s, args, below, meth, c, R, Q, rfl, hQ, hx, hb, hml, hown, hts, hr, hlk, hK, r1, r2, r3, r4, hini⟩ := X
  intro H locs ls hH hL hls
  exact lv_dup hx hb d ((ab_cat E va).trans hva) (kk H locs ls hH hL hls)
theorem a_pop (X : ab_X E l G m cc nL own ini ret fr lo mc ms Post) {va : Value} (d : decode cc pc = .ok (.pop, 1)) (hva : va.category = 1) (kk : ab_R E G m nL ce sl (pc + 1) lv st h) : ab_R E G m nL ce sl pc lv (va :: st) h := by
  obtain ⟨p, e, s, args, below, meth, c, R, Q, rfl, hQ, hx, hb, hml, hown, hts, hr, hlk, hK, r1, r2, r3, r4, hini⟩ := X
  intro H locs ls hH hL hls
  exact lv_pop hx hb d ((ab_cat E va).trans hva) (kk H locs ls hH hL hls)
theorem a_pop2 (X : ab_X E l G m cc nL own ini ret fr lo mc ms Post) {va : Value} (d : decode cc pc = .ok (.pop2, 1)) (hva : va.category = 2) (kk : ab_R E G m nL ce sl (pc + 1) lv st h) : ab_R E G m nL ce sl pc lv (va :: st) h := by
  obtain ⟨p, e, s, args, below, meth, c, R, Q, rfl, hQ, hx, hb, hml, hown, hts, hr, hlk, hK, r1, r2, r3, r4, hini⟩ := X
  intro H locs ls hH hL hls
  exact lv_pop2_2 hx hb d ((ab_cat E va).trans hva) (kk H locs ls hH hL hls)
theorem a_dup_x1 (X : ab_X E l G m cc nL own ini ret fr lo mc ms Post) {va vb : Value} (d : decode cc pc = .ok (.dup_x1, 1)) (hva : va.category = 1) (hvb : vb.category = 1) (kk : ab_R E G m nL ce sl (pc + 1) lv (va :: vb :: va :: st) h) : ab_R E G m nL ce sl pc lv (va :: vb :: st) h := by
  obtain ⟨p, e, s, args, below, meth, c, R, Q, rfl, hQ, hx, hb, hml, hown, hts, hr, hlk, hK, r1, r2, r3, r4, hini⟩ := X
  intro H locs ls hH hL hls
  exact lv_dup_x1 hx hb d ((ab_cat E va).trans hva) ((ab_cat E vb).trans hvb) (kk H locs ls hH hL hls)
theorem a_dup_x2 (X : ab_X E l G m cc nL own ini ret fr lo mc ms Post) {va vb vd : Value} (d : decode cc pc = .ok (.dup_x2, 1)) (hva : va.category = 1) (hvb : vb.category = 1) (hvd : vd.category = 1) (kk : ab_R E G m nL ce sl (pc + 1) lv (va :: vb :: vd :: va :: st) h) : ab_R E G m nL ce sl pc lv (va :: vb :: vd :: st) h := by
  obtain ⟨p, e, s, args, below, meth, c, R, Q, rfl, hQ, hx, hb, hml, hown, hts, hr, hlk, hK, r1, r2, r3, r4, hini⟩ := X
  intro H locs ls hH hL hls
  exact lv_dup_x2 hx hb d ((ab_cat E va).trans hva) ((ab_cat E vb).trans hvb) ((ab_cat E vd).trans hvd) (kk H locs ls hH hL hls)
theorem a_dup2 (X : ab_X E l G m cc nL own ini ret fr lo mc ms Post) {va vb : Value} (d : decode cc pc = .ok (.dup2, 1)) (hva : va.category = 1) (hvb : vb.category = 1) (kk : ab_R E G m nL ce sl (pc + 1) lv (va :: vb :: va :: vb :: st) h) : ab_R E G m nL ce sl pc lv (va :: vb :: st) h := by
  obtain ⟨p, e, s, args, below, meth, c, R, Q, rfl, hQ, hx, hb, hml, hown, hts, hr, hlk, hK, r1, r2, r3, r4, hini⟩ := X
  intro H locs ls hH hL hls
  exact lv_dup2_11 hx hb d ((ab_cat E va).trans hva) ((ab_cat E vb).trans hvb) (kk H locs ls hH hL hls)
theorem a_dup2_2 (X : ab_X E l G m cc nL own ini ret fr lo mc ms Post) {va : Value} (d : decode cc pc = .ok (.dup2, 1)) (hva : va.category = 2) (kk : ab_R E G m nL ce sl (pc + 1) lv (va :: va :: st) h) : ab_R E G m nL ce sl pc lv (va :: st) h := by
  obtain ⟨p, e, s, args, below, meth, c, R, Q, rfl, hQ, hx, hb, hml, hown, hts, hr, hlk, hK, r1, r2, r3, r4, hini⟩ := X
  intro H locs ls hH hL hls
  exact lv_dup2_2 hx hb d ((ab_cat E va).trans hva) (kk H locs ls hH hL hls)
theorem a_dup2_x1 (X : ab_X E l G m cc nL own ini ret fr lo mc ms Post) {va vb : Value} (d : decode cc pc = .ok (.dup2_x1, 1)) (hva : va.category = 2) (hvb : vb.category = 1) (kk : ab_R E G m nL ce sl (pc + 1) lv (va :: vb :: va :: st) h) : ab_R E G m nL ce sl pc lv (va :: vb :: st) h := by
  obtain ⟨p, e, s, args, below, meth, c, R, Q, rfl, hQ, hx, hb, hml, hown, hts, hr, hlk, hK, r1, r2, r3, r4, hini⟩ := X
  intro H locs ls hH hL hls
  exact lv_dup2_x1_2 hx hb d ((ab_cat E va).trans hva) ((ab_cat E vb).trans hvb) (kk H locs ls hH hL hls)
theorem a_dup2_x2 (X : ab_X E l G m cc nL own ini ret fr lo mc ms Post) {va vb vd : Value} (d : decode cc pc = .ok (.dup2_x2, 1)) (hva : va.category = 2) (hvb : vb.category = 1) (hvd : vd.category = 1) (kk : ab_R E G m nL ce sl (pc + 1) lv (va :: vb :: vd :: va :: st) h) : ab_R E G m nL ce sl pc lv (va :: vb :: vd :: st) h := by
  obtain ⟨p, e, s, args, below, meth, c, R, Q, rfl, hQ, hx, hb, hml, hown, hts, hr, hlk, hK, r1, r2, r3, r4, hini⟩ := X
  intro H locs ls hH hL hls
  exact lv_dup2_x2_2 hx hb d ((ab_cat E va).trans hva) ((ab_cat E vb).trans hvb) ((ab_cat E vd).trans hvd) (kk H locs ls hH hL hls)
theorem a_if_eq (X : ab_X E l G m cc nL own ini ret fr lo mc ms Post) {x : Int32} {off : Int} (tgt : Nat) (d : decode cc pc = .ok (.ifCond .eq off, 3)) (ht : (pc : Int) + off = (tgt : Int)) (kt : x = 0 → ab_R E G m nL ce sl tgt lv st h) (kf : ¬ x = 0 → ab_R E G m nL ce sl (pc + 3) lv st h) : ab_R E G m nL ce sl pc lv (.int x :: st) h := by
  obtain ⟨p, e, s, args, below, meth, c, R, Q, rfl, hQ, hx, hb, hml, hown, hts, hr, hlk, hK, r1, r2, r3, r4, hini⟩ := X
  intro H locs ls hH hL hls
  exact lv_if_eq hx hb d ht (fun q => kt q H locs ls hH hL hls) (fun q => kf q H locs ls hH hL hls)
theorem a_icmp_eq (X : ab_X E l G m cc nL own ini ret fr lo mc ms Post) {x y : Int32} {off : Int} (tgt : Nat) (d : decode cc pc = .ok (.if_icmp .eq off, 3)) (ht : (pc : Int) + off = (tgt : Int)) (kt : x = y → ab_R E G m nL ce sl tgt lv st h) (kf : ¬ x = y → ab_R E G m nL ce sl (pc + 3) lv st h) : ab_R E G m nL ce sl pc lv (.int y :: .int x :: st) h := by
  obtain ⟨p, e, s, args, below, meth, c, R, Q, rfl, hQ, hx, hb, hml, hown, hts, hr, hlk, hK, r1, r2, r3, r4, hini⟩ := X
  intro H locs ls hH hL hls
  exact lv_icmp_eq hx hb d ht (fun q => kt q H locs ls hH hL hls) (fun q => kf q H locs ls hH hL hls)
theorem a_if_ne (X : ab_X E l G m cc nL own ini ret fr lo mc ms Post) {x : Int32} {off : Int} (tgt : Nat) (d : decode cc pc = .ok (.ifCond .ne off, 3)) (ht : (pc : Int) + off = (tgt : Int)) (kt : ¬ x = 0 → ab_R E G m nL ce sl tgt lv st h) (kf : x = 0 → ab_R E G m nL ce sl (pc + 3) lv st h) : ab_R E G m nL ce sl pc lv (.int x :: st) h := by
  obtain ⟨p, e, s, args, below, meth, c, R, Q, rfl, hQ, hx, hb, hml, hown, hts, hr, hlk, hK, r1, r2, r3, r4, hini⟩ := X
  intro H locs ls hH hL hls
  exact lv_if_ne hx hb d ht (fun q => kt q H locs ls hH hL hls) (fun q => kf q H locs ls hH hL hls)
theorem a_icmp_ne (X : ab_X E l G m cc nL own ini ret fr lo mc ms Post) {x y : Int32} {off : Int} (tgt : Nat) (d : decode cc pc = .ok (.if_icmp .ne off, 3)) (ht : (pc : Int) + off = (tgt : Int)) (kt : ¬ x = y → ab_R E G m nL ce sl tgt lv st h) (kf : x = y → ab_R E G m nL ce sl (pc + 3) lv st h) : ab_R E G m nL ce sl pc lv (.int y :: .int x :: st) h := by
  obtain ⟨p, e, s, args, below, meth, c, R, Q, rfl, hQ, hx, hb, hml, hown, hts, hr, hlk, hK, r1, r2, r3, r4, hini⟩ := X
  intro H locs ls hH hL hls
  exact lv_icmp_ne hx hb d ht (fun q => kt q H locs ls hH hL hls) (fun q => kf q H locs ls hH hL hls)
theorem a_if_lt (X : ab_X E l G m cc nL own ini ret fr lo mc ms Post) {x : Int32} {off : Int} (tgt : Nat) (d : decode cc pc = .ok (.ifCond .lt off, 3)) (ht : (pc : Int) + off = (tgt : Int)) (kt : x < 0 → ab_R E G m nL ce sl tgt lv st h) (kf : ¬ x < 0 → ab_R E G m nL ce sl (pc + 3) lv st h) : ab_R E G m nL ce sl pc lv (.int x :: st) h := by
  obtain ⟨p, e, s, args, below, meth, c, R, Q, rfl, hQ, hx, hb, hml, hown, hts, hr, hlk, hK, r1, r2, r3, r4, hini⟩ := X
  intro H locs ls hH hL hls
  exact lv_if_lt hx hb d ht (fun q => kt q H locs ls hH hL hls) (fun q => kf q H locs ls hH hL hls)
theorem a_icmp_lt (X : ab_X E l G m cc nL own ini ret fr lo mc ms Post) {x y : Int32} {off : Int} (tgt : Nat) (d : decode cc pc = .ok (.if_icmp .lt off, 3)) (ht : (pc : Int) + off = (tgt : Int)) (kt : x < y → ab_R E G m nL ce sl tgt lv st h) (kf : ¬ x < y → ab_R E G m nL ce sl (pc + 3) lv st h) : ab_R E G m nL ce sl pc lv (.int y :: .int x :: st) h := by
  obtain ⟨p, e, s, args, below, meth, c, R, Q, rfl, hQ, hx, hb, hml, hown, hts, hr, hlk, hK, r1, r2, r3, r4, hini⟩ := X
  intro H locs ls hH hL hls
  exact lv_icmp_lt hx hb d ht (fun q => kt q H locs ls hH hL hls) (fun q => kf q H locs ls hH hL hls)
theorem a_if_ge (X : ab_X E l G m cc nL own ini ret fr lo mc ms Post) {x : Int32} {off : Int} (tgt : Nat) (d : decode cc pc = .ok (.ifCond .ge off, 3)) (ht : (pc : Int) + off = (tgt : Int)) (kt : 0 ≤ x → ab_R E G m nL ce sl tgt lv st h) (kf : ¬ 0 ≤ x → ab_R E G m nL ce sl (pc + 3) lv st h) : ab_R E G m nL ce sl pc lv (.int x :: st) h := by
  obtain ⟨p, e, s, args, below, meth, c, R, Q, rfl, hQ, hx, hb, hml, hown, hts, hr, hlk, hK, r1, r2, r3, r4, hini⟩ := X
  intro H locs ls hH hL hls
  exact lv_if_ge hx hb d ht (fun q => kt q H locs ls hH hL hls) (fun q => kf q H locs ls hH hL hls)
theorem a_icmp_ge (X : ab_X E l G m cc nL own ini ret fr lo mc ms Post) {x y : Int32} {off : Int} (tgt : Nat) (d : decode cc pc = .ok (.if_icmp .ge off, 3)) (ht : (pc : Int) + off = (tgt : Int)) (kt : y ≤ x → ab_R E G m nL ce sl tgt lv st h) (kf : ¬ y ≤ x → ab_R E G m nL ce sl (pc + 3) lv st h) : ab_R E G m nL ce sl pc lv (.int y :: .int x :: st) h := by
  obtain ⟨p, e, s, args, below, meth, c, R, Q, rfl, hQ, hx, hb, hml, hown, hts, hr, hlk, hK, r1, r2, r3, r4, hini⟩ := X
  intro H locs ls hH hL hls
  exact lv_icmp_ge hx hb d ht (fun q => kt q H locs ls hH hL hls) (fun q => kf q H locs ls hH hL hls)
theorem a_if_gt (X : ab_X E l G m cc nL own ini ret fr lo mc ms Post) {x : Int32} {off : Int} (tgt : Nat) (d : decode cc pc = .ok (.ifCond .gt off, 3)) (ht : (pc : Int) + off = (tgt : Int)) (kt : 0 < x → ab_R E G m nL ce sl tgt lv st h) (kf : ¬ 0 < x → ab_R E G m nL ce sl (pc + 3) lv st h) : ab_R E G m nL ce sl pc lv (.int x :: st) h := by
  obtain ⟨p, e, s, args, below, meth, c, R, Q, rfl, hQ, hx, hb, hml, hown, hts, hr, hlk, hK, r1, r2, r3, r4, hini⟩ := X
  intro H locs ls hH hL hls
  exact lv_if_gt hx hb d ht (fun q => kt q H locs ls hH hL hls) (fun q => kf q H locs ls hH hL hls)
theorem a_icmp_gt (X : ab_X E l G m cc nL own ini ret fr lo mc ms Post) {x y : Int32} {off : Int} (tgt : Nat) (d : decode cc pc = .ok (.if_icmp .gt off, 3)) (ht : (pc : Int) + off = (tgt : Int)) (kt : y < x → ab_R E G m nL ce sl tgt lv st h) (kf : ¬ y < x → ab_R E G m nL ce sl (pc + 3) lv st h) : ab_R E G m nL ce sl pc lv (.int y :: .int x :: st) h := by
  obtain ⟨p, e, s, args, below, meth, c, R, Q, rfl, hQ, hx, hb, hml, hown, hts, hr, hlk, hK, r1, r2, r3, r4, hini⟩ := X
  intro H locs ls hH hL hls
  exact lv_icmp_gt hx hb d ht (fun q => kt q H locs ls hH hL hls) (fun q => kf q H locs ls hH hL hls)
theorem a_if_le (X : ab_X E l G m cc nL own ini ret fr lo mc ms Post) {x : Int32} {off : Int} (tgt : Nat) (d : decode cc pc = .ok (.ifCond .le off, 3)) (ht : (pc : Int) + off = (tgt : Int)) (kt : x ≤ 0 → ab_R E G m nL ce sl tgt lv st h) (kf : ¬ x ≤ 0 → ab_R E G m nL ce sl (pc + 3) lv st h) : ab_R E G m nL ce sl pc lv (.int x :: st) h := by
  obtain ⟨p, e, s, args, below, meth, c, R, Q, rfl, hQ, hx, hb, hml, hown, hts, hr, hlk, hK, r1, r2, r3, r4, hini⟩ := X
  intro H locs ls hH hL hls
  exact lv_if_le hx hb d ht (fun q => kt q H locs ls hH hL hls) (fun q => kf q H locs ls hH hL hls)
theorem a_icmp_le (X : ab_X E l G m cc nL own ini ret fr lo mc ms Post) {x y : Int32} {off : Int} (tgt : Nat) (d : decode cc pc = .ok (.if_icmp .le off, 3)) (ht : (pc : Int) + off = (tgt : Int)) (kt : x ≤ y → ab_R E G m nL ce sl tgt lv st h) (kf : ¬ x ≤ y → ab_R E G m nL ce sl (pc + 3) lv st h) : ab_R E G m nL ce sl pc lv (.int y :: .int x :: st) h := by
  obtain ⟨p, e, s, args, below, meth, c, R, Q, rfl, hQ, hx, hb, hml, hown, hts, hr, hlk, hK, r1, r2, r3, r4, hini⟩ := X
  intro H locs ls hH hL hls
  exact lv_icmp_le hx hb d ht (fun q => kt q H locs ls hH hL hls) (fun q => kf q H locs ls hH hL hls)
theorem a_goto (X : ab_X E l G m cc nL own ini ret fr lo mc ms Post) {off : Int} (tgt : Nat) (d : decode cc pc = .ok (.goto off, 3)) (ht : (pc : Int) + off = (tgt : Int)) (kk : ab_R E G m nL ce sl tgt lv st h) : ab_R E G m nL ce sl pc lv st h := by
  obtain ⟨p, e, s, args, below, meth, c, R, Q, rfl, hQ, hx, hb, hml, hown, hts, hr, hlk, hK, r1, r2, r3, r4, hini⟩ := X
  intro H locs ls hH hL hls
  exact lv_goto hx hb d ht (kk H locs ls hH hL hls)
theorem a_ldc (X : ab_X E l G m cc nL own ini ret fr lo mc ms Post) {i : Nat} {v : Int32} (hw : Cond.constant own i v ∈ ab_tbl) (d : decode cc pc = .ok (.ldc i, 2)) (kk : ab_R E G m nL ce sl (pc + 2) lv (.int v :: st) h) : ab_R E G m nL ce sl pc lv st h := by
  obtain ⟨p, e, s, args, below, meth, c, R, Q, rfl, hQ, hx, hb, hml, hown, hts, hr, hlk, hK, r1, r2, r3, r4, hini⟩ := X
  intro H locs ls hH hL hls
  exact W.ldc hx hb hown (hts _ hw) rfl d (kk H locs ls hH hL hls)
theorem a_ldc2 (X : ab_X E l G m cc nL own ini ret fr lo mc ms Post) {i : Nat} {v : Int64} (hw : Cond.constantLong own i v ∈ ab_tbl) (d : decode cc pc = .ok (.ldc2_w i, 3)) (kk : ab_R E G m nL ce sl (pc + 3) lv (.long v :: st) h) : ab_R E G m nL ce sl pc lv st h := by
  obtain ⟨p, e, s, args, below, meth, c, R, Q, rfl, hQ, hx, hb, hml, hown, hts, hr, hlk, hK, r1, r2, r3, r4, hini⟩ := X
  intro H locs ls hH hL hls
  exact W.ldc2 hx hb hown (hts _ hw) rfl d (kk H locs ls hH hL hls)
theorem ab_catS {E : ab_E} (st : List Value) : ((st.map (ab_v E)).map fun v => v.category).sum = (st.map fun v => v.category).sum := by
  rw [List.map_map]
  congr 1
  exact List.map_congr_left fun v _ => ab_cat E v
theorem ab_topi {x y : Int32} (e : x = y) (kk : ab_R E G m nL ce sl pc lv (.int y :: st) h) : ab_R E G m nL ce sl pc lv (.int x :: st) h := e ▸ kk
theorem ab_topl {x y : Int64} (e : x = y) (kk : ab_R E G m nL ce sl pc lv (.long y :: st) h) : ab_R E G m nL ce sl pc lv (.long x :: st) h := e ▸ kk
theorem a_incN (X : ab_X E l G m cc nL own ini ret fr lo mc ms Post) {i k : Nat} (d : decode cc pc = .ok (.iinc i 1, 3)) (hl : lv.lookup i = some (.int (nI k))) (hn : i < nL) (kk : ab_R E G m nL ce sl (pc + 3) (ab_s1 lv i (.int (nI (k + 1)))) st h) : ab_R E G m nL ce sl pc lv st h := a_iinc X d hl (nI_1 k) hn kk
theorem a_decN (X : ab_X E l G m cc nL own ini ret fr lo mc ms Post) {i k : Nat} (d : decode cc pc = .ok (.iinc i (-1), 3)) (hl : lv.lookup i = some (.int (nI (k + 1)))) (hn : i < nL) (kk : ab_R E G m nL ce sl (pc + 3) (ab_s1 lv i (.int (nI k))) st h) : ab_R E G m nL ce sl pc lv st h := a_iinc X d hl (pk_m1 k) hn kk
theorem a_mmax (X : ab_X E l G m cc nL own ini ret fr lo mc ms Post) {i : Nat} {x y : Int32} (hw : Cond.methodLink own i Lib.Math.max.name ∈ ab_tbl) (hw1 : Cond.static Lib.Math.max.name ∈ ab_tbl) (hw2 : Cond.initialized "java/lang/Math" ∈ ab_tbl) (hw3 : Cond.code Lib.Math.max.name Lib.Math.max.code 2 (some .int) ∈ ab_tbl) (d : decode cc pc = .ok (.invokestatic i, 3)) (hfr : 1 ≤ fr) (hlo : (st.map fun v => v.category).sum + 13 ≤ lo) (hce : ce ≤ mc) (hsl : sl ≤ ms) (kk : ab_R E G m nL ce sl (pc + 3) lv (.int (if x < y then y else x) :: st) h) : ab_R E G m nL ce sl pc lv (.int y :: .int x :: st) h := by
  obtain ⟨p, e, s, args, below, meth, c, R, Q, rfl, hQ, hx, hb, hml, hown, hts, hr, hlk, hK, r1, r2, r3, r4, hini⟩ := X
  intro H locs ls hH hL hls
  exact va_mmax hx hb (hml.trans hls.1.symm) hown (hts _ hw) (hts _ hw1) (hts _ hw2) (hts _ hw3) (by rw [r1]; exact hfr) (by rw [ab_catS, r2]; exact hlo) (by rw [r3]; exact hce) (by rw [r4]; exact hsl) d (kk H locs ls hH hL hls)
theorem a_mmin (X : ab_X E l G m cc nL own ini ret fr lo mc ms Post) {i : Nat} {x y : Int32} (hw : Cond.methodLink own i Lib.Math.min.name ∈ ab_tbl) (hw1 : Cond.static Lib.Math.min.name ∈ ab_tbl) (hw2 : Cond.initialized "java/lang/Math" ∈ ab_tbl) (hw3 : Cond.code Lib.Math.min.name Lib.Math.min.code 2 (some .int) ∈ ab_tbl) (d : decode cc pc = .ok (.invokestatic i, 3)) (hfr : 1 ≤ fr) (hlo : (st.map fun v => v.category).sum + 13 ≤ lo) (hce : ce ≤ mc) (hsl : sl ≤ ms) (kk : ab_R E G m nL ce sl (pc + 3) lv (.int (if y < x then y else x) :: st) h) : ab_R E G m nL ce sl pc lv (.int y :: .int x :: st) h := by
  obtain ⟨p, e, s, args, below, meth, c, R, Q, rfl, hQ, hx, hb, hml, hown, hts, hr, hlk, hK, r1, r2, r3, r4, hini⟩ := X
  intro H locs ls hH hL hls
  exact va_mmin hx hb (hml.trans hls.1.symm) hown (hts _ hw) (hts _ hw1) (hts _ hw2) (hts _ hw3) (by rw [r1]; exact hfr) (by rw [ab_catS, r2]; exact hlo) (by rw [r3]; exact hce) (by rw [r4]; exact hsl) d (kk H locs ls hH hL hls)
theorem a_lmax (X : ab_X E l G m cc nL own ini ret fr lo mc ms Post) {i : Nat} {x y : Int64} (hw : Cond.methodLink own i Lib.MathLoose.max_long.x ∈ ab_tbl) (hw1 : Cond.static Lib.MathLoose.max_long.x ∈ ab_tbl) (hw2 : Cond.initialized "java/lang/Math" ∈ ab_tbl) (hw3 : Cond.code Lib.MathLoose.max_long.x Lib.MathLoose.max_long.code 4 (some .long) ∈ ab_tbl) (d : decode cc pc = .ok (.invokestatic i, 3)) (hfr : 1 ≤ fr) (hlo : (st.map fun v => v.category).sum + 15 ≤ lo) (hce : ce ≤ mc) (hsl : sl ≤ ms) (kk : ab_R E G m nL ce sl (pc + 3) lv (.long (if y < x then x else y) :: st) h) : ab_R E G m nL ce sl pc lv (.long y :: .long x :: st) h := by
  obtain ⟨p, e, s, args, below, meth, c, R, Q, rfl, hQ, hx, hb, hml, hown, hts, hr, hlk, hK, r1, r2, r3, r4, hini⟩ := X
  intro H locs ls hH hL hls
  exact va_mmax_long hx hb (hml.trans hls.1.symm) hown (hts _ hw) (hts _ hw1) (hts _ hw2) (hts _ hw3) (by rw [r1]; exact hfr) (by rw [ab_catS, r2]; exact hlo) (by rw [r3]; exact hce) (by rw [r4]; exact hsl) d (kk H locs ls hH hL hls)
theorem a_lmin (X : ab_X E l G m cc nL own ini ret fr lo mc ms Post) {i : Nat} {x y : Int64} (hw : Cond.methodLink own i Lib.MathLoose.min_long.x ∈ ab_tbl) (hw1 : Cond.static Lib.MathLoose.min_long.x ∈ ab_tbl) (hw2 : Cond.initialized "java/lang/Math" ∈ ab_tbl) (hw3 : Cond.code Lib.MathLoose.min_long.x Lib.MathLoose.min_long.code 4 (some .long) ∈ ab_tbl) (d : decode cc pc = .ok (.invokestatic i, 3)) (hfr : 1 ≤ fr) (hlo : (st.map fun v => v.category).sum + 15 ≤ lo) (hce : ce ≤ mc) (hsl : sl ≤ ms) (kk : ab_R E G m nL ce sl (pc + 3) lv (.long (if y < x then y else x) :: st) h) : ab_R E G m nL ce sl pc lv (.long y :: .long x :: st) h := by
  obtain ⟨p, e, s, args, below, meth, c, R, Q, rfl, hQ, hx, hb, hml, hown, hts, hr, hlk, hK, r1, r2, r3, r4, hini⟩ := X
  intro H locs ls hH hL hls
  exact va_mmin_long hx hb (hml.trans hls.1.symm) hown (hts _ hw) (hts _ hw1) (hts _ hw2) (hts _ hw3) (by rw [r1]; exact hfr) (by rw [ab_catS, r2]; exact hlo) (by rw [r3]; exact hce) (by rw [r4]; exact hsl) d (kk H locs ls hH hL hls)
theorem ab_slL {E : ab_E} (av : List Value) : (lg_sl (av.map (ab_v E))).length = (lg_sl av).length := by
  induction av with
  | nil => rfl
  | cons v t ih =>
    show ((if (ab_v E v).category = 2 then [Slot.val (ab_v E v), .second] else [Slot.val (ab_v E v)]) ++ lg_sl (t.map (ab_v E))).length = ((if v.category = 2 then [Slot.val v, .second] else [Slot.val v]) ++ lg_sl t).length
    rw [List.length_append, List.length_append, ih, ab_cat]
    congr 1
    split <;> rfl
theorem ab_args {E : ab_E} (av : List Value) : ∀ i : Nat, lv_args i (av.map (ab_v E)) = ab_l E (lv_args i av) := by
  induction av with
  | nil => intro i; rfl
  | cons v t ih =>
    intro i
    show (i, ab_v E v) :: lv_args (if (ab_v E v).category = 2 then i + 2 else i + 1) (t.map (ab_v E)) = (i, ab_v E v) :: ab_l E (lv_args (if v.category = 2 then i + 2 else i + 1) t)
    rw [ih, ab_cat]
def ab_ix (i : Int32) (j n : Nat) : Prop := ¬ i < 0 ∧ i.toNatClampNeg = j ∧ j < n
theorem ab_ix_nI {j n : Nat} (hj : j < n) (hn : n < 2 ^ 31) : ab_ix (nI j) j n := ⟨nI_pos (by omega), nI_clamp (by omega), hj⟩
theorem ab_ix.in {i : Int32} {j n : Nat} (h : ab_ix i j n) : vp_in i n := fun q => by
  rcases q with q | q
  · exact h.1 q
  · rw [h.2.1] at q
    exact absurd h.2.2 (Nat.not_lt.mpr q)
def ab_F (own : String) (idx ci k : Nat) (fin : Bool) (ty : FieldType) : Prop := ∃ (C : String) (T : u_T) (N : Nat) (ty0 : Nat → FieldType), classes[ci]? = some (C, T, N) ∧ k < N ∧ (∀ w ∈ u_ws C T N, w ∈ ab_tbl) ∧ Cond.fieldLink own idx (T k).1 (T k).2.1 (T k).2.2.1 ∈ ab_tbl ∧ (T k).2.2.2 = fin ∧ parseFieldDescriptor (T k).2.2.1 = some ty ∧ (∀ j, j < N → parseFieldDescriptor (T j).2.2.1 = some (ty0 j)) ∧ (∀ a, a < N → ∀ b, b < N → a ≠ b → (T a).2.1 ≠ (T b).2.1)
theorem ab_one {E : ab_E} {h : List ab_C} {H : Heap} {a : Nat} {x : ab_C} (hH : ab_H E h H) (ha : h[a]? = some x) : va_P E.1 classes [(ab_n E + a, ab_c E x)] H := fun j q hq => by
  match j, hq with
  | 0, hq => cases hq; exact hH.2.1 a _ ha
theorem ab_lc {E : ab_E} {locs : List Loc} {a i : Nat} (hL : ∀ q ∈ locs, ab_n E ≤ q.base) : ∀ q ∈ locs ++ [⟨ab_n E + a, i⟩], ab_n E ≤ q.base := fun q hq => by
  rcases List.mem_append.mp hq with g | g
  · exact hL q g
  · rw [List.mem_singleton] at g
    subst g
    show ab_n E ≤ ab_n E + a
    omega
theorem a_get (X : ab_X E l G m cc nL own ini ret fr lo mc ms Post) {i ci k a : Nat} {fin : Bool} {ty : FieldType} {fs : List Value} {v : Value} (hF : ab_F own i ci k fin ty) (d : decode cc pc = .ok (.getfield i, 3)) (ha : h[a]? = some (.inr (ci, fs))) (hv : fs[k]? = some v) (kk : ab_R E G m nL ce sl (pc + 3) lv (v :: st) h) : ab_R E G m nL ce sl pc lv (.ref (a + 1) :: st) h := by
  obtain ⟨p, e, s, args, below, meth, c, R, Q, rfl, hQ, hx, hb, hml, hown, hts, hr, hlk, hK, r1, r2, r3, r4, hini⟩ := X
  obtain ⟨C, T, N, ty0, hc, hk, hin, hw, -⟩ := hF
  intro H locs ls hH hL hls
  exact va_get hx hb hts hin hown hK.va (ab_one hH ha) 0 rfl hc k hk (hts _ hw) (fun _ h => h) (v := ab_v E v) (by rw [List.getElem?_map, hv]; rfl) d (kk H locs ls hH hL hls)
theorem a_put (X : ab_X E l G m cc nL own ini ret fr lo mc ms Post) {i ci k a : Nat} {ty : FieldType} {fs : List Value} {v : Value} (hF : ab_F own i ci k false ty) (d : decode cc pc = .ok (.putfield i, 3)) (ha : h[a]? = some (.inr (ci, fs))) (hl : k < fs.length) (hn : narrow ty (ab_v E v) = ab_v E v) (hfit : fits ty (ab_v E v) = true) (kk : ab_R E G m nL ce sl (pc + 3) lv st (h.set a (.inr (ci, fs.set k v)))) : ab_R E G m nL ce sl pc lv (v :: .ref (a + 1) :: st) h := by
  obtain ⟨p, e, s, args, below, meth, c, R, Q, rfl, hQ, hx, hb, hml, hown, hts, hr, hlk, hK, r1, r2, r3, r4, hini⟩ := X
  obtain ⟨C, T, N, ty0, hc, hk, hin, hw, hfin, hd, hty, hnm⟩ := hF
  intro H locs ls hH hL hls
  have hap := va_apart (own := own) hts hin ty0 hty hnm hK.va hc
  obtain ⟨r, h1, cell, q1, q2, q3, q4⟩ := hH.2.1 a _ ha
  have hr : r = (C, T, N) := Option.some.inj (h1.symm.trans hc)
  subst hr
  obtain ⟨hS, hfc, kC, hkC, hkind⟩ := hK.1 ci _ hc
  obtain ⟨cf, kf, fi, f, hi, hsl⟩ := hS k hk
  have hlay := hts _ (hin _ (u_in_lay hk))
  unfold u_lay at hlay
  rw [if_neg (by rw [hfin]; decide)] at hlay
  have hst := (u_facts hfc hkC (u_lays hts hin hk) hi).1
  have h6 := u_store hfc hkC hkind hlay hi hd hn hfit
  refine W.putK hx hb (f := f) ⟨hown, hts _ hw, ⟨_, _, _, hi⟩, hst⟩ (by rw [q2]; exact h6) q1 q3 (by rw [hsl]; exact k2_hasslot (q4 k hk)) rfl rfl d fun H' e1 e2 e3 => ?_
  rw [hsl] at e1 ⊢
  refine kk H' _ ls (hH.set ?_ e2 e3) (ab_lc hL) hls
  refine ⟨_, hc, t_OB.to (V := updV (vp_V (fs.map (ab_v E))) k (ab_v E v)) ⟨_, e1, q2, q3, t_set q4 hap hk _⟩ (fun j _ => ?_)⟩
  rw [List.map_set]
  exact vp_updV_set (by simpa using hl) _ j
theorem a_putF (X : ab_X E l G m cc nL own true ret fr lo mc ms Post) {i ci k a : Nat} {ty : FieldType} {fs : List Value} {v : Value} (hF : ab_F own i ci k true ty) (hdc : ∀ (C : String) (T : u_T) (N : Nat), classes[ci]? = some (C, T, N) → (T k).1 = own) (d : decode cc pc = .ok (.putfield i, 3)) (ha : h[a]? = some (.inr (ci, fs))) (hl : k < fs.length) (hn : narrow ty (ab_v E v) = ab_v E v) (hfit : fits ty (ab_v E v) = true) (kk : ab_R E G m nL ce sl (pc + 3) lv st (h.set a (.inr (ci, fs.set k v)))) : ab_R E G m nL ce sl pc lv (v :: .ref (a + 1) :: st) h := by
  obtain ⟨p, e, s, args, below, meth, c, R, Q, rfl, hQ, hx, hb, hml, hown, hts, hr, hlk, hK, r1, r2, r3, r4, hini⟩ := X
  obtain ⟨C, T, N, ty0, hc, hk, hin, hw, hfin, hd, hty, hnm⟩ := hF
  have hdecl := hdc C T N hc
  intro H locs ls hH hL hls
  have hap := va_apart (own := own) hts hin ty0 hty hnm hK.va hc
  obtain ⟨r, h1, cell, q1, q2, q3, q4⟩ := hH.2.1 a _ ha
  have hr : r = (C, T, N) := Option.some.inj (h1.symm.trans hc)
  subst hr
  obtain ⟨hS, hfc, kC, hkC, hkind⟩ := hK.1 ci _ hc
  obtain ⟨cf, kf, fi, f, hi, hsl⟩ := hS k hk
  have hlay := hts _ (hin _ (u_in_lay hk))
  unfold u_lay at hlay
  rw [if_pos hfin] at hlay
  have hst := (u_facts hfc hkC (u_lays hts hin hk) hi).1
  have hcf : m.cls = cf := by
    obtain ⟨_, _, c', _, _, _, -, -, hf', -, -, -, hown2, -⟩ := Cond.laysFinal_spec hlay
    have e1 : c' = cf := by have := hi.symm.trans hf'; simp at this; exact this.1.symm
    rw [hdecl] at hown2
    rw [← e1]; exact Option.some.inj (hown.symm.trans hown2)
  have h6 := u_fits hfc hkC hkind (Or.inr hlay) hi hd hn hfit
  refine W.putFinK hx hb hown (hts _ hw) hi hst hcf (hini rfl) (by rw [q2]; exact h6) q1 q3 (by rw [hsl]; exact k2_hasslot (q4 k hk)) rfl rfl d fun H' e1 e2 e3 => ?_
  rw [hsl] at e1 ⊢
  refine kk H' _ ls (hH.set ?_ e2 e3) (ab_lc hL) hls
  refine ⟨_, hc, t_OB.to (V := updV (vp_V (fs.map (ab_v E))) k (ab_v E v)) ⟨_, e1, q2, q3, t_set q4 hap hk _⟩ (fun j _ => ?_)⟩
  rw [List.map_set]
  exact vp_updV_set (by simpa using hl) _ j
theorem a_iald (X : ab_X E l G m cc nL own ini ret fr lo mc ms Post) {t n a j : Nat} {f : Nat → Int32} {i : Int32} (d : decode cc pc = .ok (.iaload, 1)) (ha : h[a]? = some (.inl (t, n, .inl f))) (ht : ab_tys[t]? = some .int) (hin : ab_ix i j n) (kk : ab_R E G m nL ce sl (pc + 1) lv (.int (f j) :: st) h) : ab_R E G m nL ce sl pc lv (.int i :: .ref (a + 1) :: st) h := by
  obtain ⟨p, e, s, args, below, meth, c, R, Q, rfl, hQ, hx, hb, hml, hown, hts, hr, hlk, hK, r1, r2, r3, r4, hini⟩ := X
  intro H locs ls hH hL hls
  exact W.iald (v := .int (f j)) hx hb (hH.2.1 a _ ha) ((hK.2.1 t _ ht).1 n (fun j => .int (f j))) (fun q => by cases q) (by show ¬ (i < 0 ∨ (arrV _ _ _).slots.size ≤ _); rw [arrV_size]; exact hin.in) (by show (arrV _ _ _).slots[_]? = _; rw [hin.2.1]; exact arrV_read _ _ hin.2.2) rfl rfl d (kk H locs ls hH hL hls)
theorem a_lald (X : ab_X E l G m cc nL own ini ret fr lo mc ms Post) {t n a j : Nat} {f : Nat → Int64} {i : Int32} (d : decode cc pc = .ok (.laload, 1)) (ha : h[a]? = some (.inl (t, n, .inr (.inl f)))) (ht : ab_tys[t]? = some .long) (hin : ab_ix i j n) (kk : ab_R E G m nL ce sl (pc + 1) lv (.long (f j) :: st) h) : ab_R E G m nL ce sl pc lv (.int i :: .ref (a + 1) :: st) h := by
  obtain ⟨p, e, s, args, below, meth, c, R, Q, rfl, hQ, hx, hb, hml, hown, hts, hr, hlk, hK, r1, r2, r3, r4, hini⟩ := X
  intro H locs ls hH hL hls
  exact W.lald (v := .long (f j)) hx hb (hH.2.1 a _ ha) ((hK.2.1 t _ ht).1 n (fun j => .long (f j))) (fun q => by cases q) (by show ¬ (i < 0 ∨ (arrV _ _ _).slots.size ≤ _); rw [arrV_size]; exact hin.in) (by show (arrV _ _ _).slots[_]? = _; rw [hin.2.1]; exact arrV_read _ _ hin.2.2) rfl rfl d (kk H locs ls hH hL hls)
theorem a_aald (X : ab_X E l G m cc nL own ini ret fr lo mc ms Post) {t n a j r : Nat} {ty : FieldType} {f : Nat → Option Nat} {i : Int32} (d : decode cc pc = .ok (.aaload, 1)) (ha : h[a]? = some (.inl (t, n, .inr (.inr (.inr (.inr f)))))) (ht : ab_tys[t]? = some ty) (hty : ty.isReference = true) (hin : ab_ix i j n) (hf : f j = some r) (kk : ab_R E G m nL ce sl (pc + 1) lv (.ref r :: st) h) : ab_R E G m nL ce sl pc lv (.int i :: .ref (a + 1) :: st) h := by
  obtain ⟨p, e, s, args, below, meth, c, R, Q, rfl, hQ, hx, hb, hml, hown, hts, hr, hlk, hK, r1, r2, r3, r4, hini⟩ := X
  intro H locs ls hH hL hls
  refine W.aald (v := .ref (ab_ad E r)) (ty := ty) hx hb (hH.2.1 a _ ha) ((hK.2.1 t _ ht).1 n (fun j => va_rf ((f j).map (ab_ad E)))) hty (fun q => by cases q) (by show ¬ (i < 0 ∨ (arrV _ _ _).slots.size ≤ _); rw [arrV_size]; exact hin.in) (by show (arrV _ _ _).slots[_]? = _; rw [hin.2.1]; refine (arrV_read _ _ hin.2.2).trans ?_; show some (va_rf ((f j).map (ab_ad E))) = _; rw [hf]; rfl) rfl rfl d (kk H locs ls hH hL hls)
theorem a_iast (X : ab_X E l G m cc nL own ini ret fr lo mc ms Post) {t n a j : Nat} {f : Nat → Int32} {i x : Int32} (d : decode cc pc = .ok (.iastore, 1)) (ha : h[a]? = some (.inl (t, n, .inl f))) (ht : ab_tys[t]? = some .int) (hin : ab_ix i j n) (kk : ab_R E G m nL ce sl (pc + 1) lv st (h.set a (.inl (t, n, .inl (upd f j x))))) : ab_R E G m nL ce sl pc lv (.int x :: .int i :: .ref (a + 1) :: st) h := by
  obtain ⟨p, e, s, args, below, meth, c, R, Q, rfl, hQ, hx, hb, hml, hown, hts, hr, hlk, hK, r1, r2, r3, r4, hini⟩ := X
  intro H locs ls hH hL hls
  refine W.iast hx hb (hH.2.1 a _ ha) ((hK.2.1 t _ ht).1 n (fun j => .int (f j))) (fun q => by cases q) (by show ¬ (i < 0 ∨ (arrV _ _ _).slots.size ≤ _); rw [arrV_size]; exact hin.in) rfl rfl d fun H1 e z oq => ?_
  refine kk H1 _ ls (hH.set ?_ z oq) (ab_lc hL) hls
  show H1[_]? = some (vp_cell _ _)
  rw [e]
  show some ((arrV (E.2.1 t) n (fun j => .int (f j))).setSlot _ _) = some (arrV (E.2.1 t) n (fun i => .int (upd f j x i)))
  rw [arrV_store, hin.2.1]
  congr 2
  funext q
  by_cases hq : q = j
  · subst hq
    simp [updV, upd]
  · simp [updV, upd, hq]
theorem a_last (X : ab_X E l G m cc nL own ini ret fr lo mc ms Post) {t n a j : Nat} {f : Nat → Int64} {i : Int32} {x : Int64} (d : decode cc pc = .ok (.lastore, 1)) (ha : h[a]? = some (.inl (t, n, .inr (.inl f)))) (ht : ab_tys[t]? = some .long) (hin : ab_ix i j n) (kk : ab_R E G m nL ce sl (pc + 1) lv st (h.set a (.inl (t, n, .inr (.inl (vp_updL f j x)))))) : ab_R E G m nL ce sl pc lv (.long x :: .int i :: .ref (a + 1) :: st) h := by
  obtain ⟨p, e, s, args, below, meth, c, R, Q, rfl, hQ, hx, hb, hml, hown, hts, hr, hlk, hK, r1, r2, r3, r4, hini⟩ := X
  intro H locs ls hH hL hls
  refine W.last hx hb (hH.2.1 a _ ha) ((hK.2.1 t _ ht).1 n (fun j => .long (f j))) (fun q => by cases q) (by show ¬ (i < 0 ∨ (arrV _ _ _).slots.size ≤ _); rw [arrV_size]; exact hin.in) rfl rfl d fun H1 e z oq => ?_
  refine kk H1 _ ls (hH.set ?_ z oq) (ab_lc hL) hls
  show H1[_]? = some (vp_cell _ _)
  rw [e]
  show some ((arrV (E.2.1 t) n (fun j => .long (f j))).setSlot _ _) = some (arrV (E.2.1 t) n (fun i => .long (vp_updL f j x i)))
  rw [arrV_store, hin.2.1]
  congr 2
  funext q
  by_cases hq : q = j
  · subst hq
    simp [updV, vp_updL]
  · simp [updV, vp_updL, hq]
theorem a_aast (X : ab_X E l G m cc nL own ini ret fr lo mc ms Post) {t n a b j ci : Nat} {r : vw_C} {fs : List Value} {f : Nat → Option Nat} {i : Int32} (d : decode cc pc = .ok (.aastore, 1)) (ha : h[a]? = some (.inl (t, n, .inr (.inr (.inr (.inr f)))))) (hb0 : h[b]? = some (.inr (ci, fs))) (hc : classes[ci]? = some r) (ht : ab_tys[t]? = some (.object r.1)) (hin : ab_ix i j n) (kk : ab_R E G m nL ce sl (pc + 1) lv st (h.set a (.inl (t, n, .inr (.inr (.inr (.inr (va_up f j (some (b + 1))))))))) ) : ab_R E G m nL ce sl pc lv (.ref (b + 1) :: .int i :: .ref (a + 1) :: st) h := by
  obtain ⟨p, e, s, args, below, meth, c, R, Q, rfl, hQ, hx, hb, hml, hown, hts, hr, hlk, hK, r1, r2, r3, r4, hini⟩ := X
  intro H locs ls hH hL hls
  obtain ⟨r', hr', cellV, g1, g2, g3, -⟩ := hH.2.1 b _ hb0
  have hcls := (hK.1 ci r hc).2
  obtain ⟨kA, comp, k1, k2, k3, -⟩ := (hK.2.1 t _ ht).2
  have hcomp : comp = E.1.1 ci := Option.some.inj (k3.symm.trans hcls.1)
  subst hcomp
  obtain ⟨kC, hkC, -⟩ := hcls.2
  refine W.aast hx hb (hH.2.1 a _ ha) (fun q h => by cases h) (fun h => by cases h) k1 k2 rfl hkC ⟨hin.1, by show _ < (arrV _ _ _).slots.size; rw [arrV_size, hin.2.1]; exact hin.2.2⟩ g1 (fun q h => by rw [g3] at h; cases h) (by rw [g2]; exact hkC) (by rw [g2]; exact va_assign hcls) rfl rfl d fun H1 e z oq => ?_
  refine kk H1 _ ls (hH.set ?_ z oq) (ab_lc hL) hls
  show H1[_]? = some (vp_cell _ _)
  rw [e]
  show some ((arrV (E.2.1 t) n (fun j => va_rf ((f j).map (ab_ad E)))).setSlot _ (.ref (ab_n E + b))) = some (arrV (E.2.1 t) n (fun i => va_rf ((va_up f j (some (b + 1)) i).map (ab_ad E))))
  rw [arrV_store, hin.2.1]
  congr 2
  funext q
  by_cases hq : q = j
  · subst hq
    simp [updV, va_up, va_rf, ab_ad]
  · simp [updV, va_up, hq]
theorem a_alen (X : ab_X E l G m cc nL own ini ret fr lo mc ms Post) {t a : Nat} {ty : FieldType} {x : vp_A} (d : decode cc pc = .ok (.arraylength, 1)) (ha : h[a]? = some (.inl (t, x))) (ht : ab_tys[t]? = some ty) (kk : ab_R E G m nL ce sl (pc + 1) lv (.int (nI x.1) :: st) h) : ab_R E G m nL ce sl pc lv (.ref (a + 1) :: st) h := by
  obtain ⟨p, e, s, args, below, meth, c, R, Q, rfl, hQ, hx, hb, hml, hown, hts, hr, hlk, hK, r1, r2, r3, r4, hini⟩ := X
  intro H locs ls hH hL hls
  have hK2 : va_K E.1 classes [(E.2.1 t, ty)] s := ⟨hK.1, fun k q hk => by
    match k, hk with
    | 0, hk => cases hk; exact hK.2.1 t ty ht⟩
  exact va_alen hx hb hK2 (ab_one hH ha) 0 0 rfl rfl (v := nI x.1) rfl d (kk H locs ls hH hL hls)
theorem a_sld (X : ab_X E l G m cc nL own ini ret fr lo mc ms Post) {j : Nat} {i : Int32} (d : decode cc pc = .ok (.iaload, 1)) (hin : ab_ix i j E.2.2.2.2.2.1) (kk : ab_R E G m nL ce sl (pc + 1) lv (.int (E.2.2.2.2.2.2 j) :: st) h) : ab_R E G m nL ce sl pc lv (.int i :: .ref 0 :: st) h := by
  obtain ⟨p, e, s, args, below, meth, c, R, Q, rfl, hQ, hx, hb, hml, hown, hts, hr, hlk, hK, r1, r2, r3, r4, hini⟩ := X
  intro H locs ls hH hL hls
  obtain ⟨-, -, -, -, -, -, ⟨scr, h1, h2, h3, h4, h5⟩, h8⟩ := hK
  exact W.iald (v := .int (E.2.2.2.2.2.2 j)) hx hb (by show H[E.2.2.1]? = _; rw [hH.2.2 _ h8]; exact h1) h2 h3 (by rw [h4]; exact hin.in) (by rw [hin.2.1]; exact h5 _ hin.2.2) rfl rfl d (kk H locs ls hH hL hls)
theorem a_slen (X : ab_X E l G m cc nL own ini ret fr lo mc ms Post) (d : decode cc pc = .ok (.arraylength, 1)) (kk : ab_R E G m nL ce sl (pc + 1) lv (.int (nI E.2.2.2.2.2.1) :: st) h) : ab_R E G m nL ce sl pc lv (.ref 0 :: st) h := by
  obtain ⟨p, e, s, args, below, meth, c, R, Q, rfl, hQ, hx, hb, hml, hown, hts, hr, hlk, hK, r1, r2, r3, r4, hini⟩ := X
  intro H locs ls hH hL hls
  obtain ⟨-, -, -, -, -, -, ⟨scr, h1, h2, h3, h4, h5⟩, h8⟩ := hK
  exact W.alen (n := nI E.2.2.2.2.2.1) hx hb (by show H[E.2.2.1]? = _; rw [hH.2.2 _ h8]; exact h1) h2 (by rw [h4]; rfl) rfl rfl d (kk H locs ls hH hL hls)
def ab_N (own : String) (idx ci : Nat) (fs : List Value) (N : Nat) : Prop := ∃ (C : String) (T : u_T) (ty0 : Nat → FieldType), classes[ci]? = some (C, T, N) ∧ (∀ w ∈ u_ws C T N, w ∈ ab_tbl) ∧ (∀ j, j < N → parseFieldDescriptor (T j).2.2.1 = some (ty0 j)) ∧ Cond.classLink own idx C ∈ ab_tbl ∧ Cond.instantiable C N ∈ ab_tbl ∧ Cond.initialized C ∈ ab_tbl ∧ (∀ j, j < N → defaultValue (ty0 j) = vp_V fs j) ∧ (∀ v ∈ fs, ∀ k, v ≠ .ref k)
theorem ab_nr {E : ab_E} {fs : List Value} (h : ∀ v ∈ fs, ∀ k, v ≠ .ref k) : fs.map (ab_v E) = fs := by
  refine (List.map_congr_left (g := id) fun v hv => ?_).trans (List.map_id _)
  cases v with
  | ref k => exact absurd rfl (h _ hv k)
  | _ => rfl
theorem a_new (X : ab_X E l G m cc nL own ini ret fr lo mc ms Post) {i ci N : Nat} {fs : List Value} (hN : ab_N own i ci fs N) (d : decode cc pc = .ok (.new i, 3)) (hce : ce + 1 ≤ mc) (hsl : sl + N ≤ ms) (kk : ab_R E G m nL (ce + 1) (sl + N) (pc + 3) lv (.ref (h.length + 1) :: st) (h ++ [.inr (ci, fs)])) : ab_R E G m nL ce sl pc lv st h := by
  obtain ⟨p, e, s, args, below, meth, c, R, Q, rfl, hQ, hx, hb, hml, hown, hts, hr, hlk, hK, r1, r2, r3, r4, hini⟩ := X
  obtain ⟨C, T, ty0, hc, hin, hty, w1, w2, w3, hfs, hnr⟩ := hN
  intro H locs ls hH hL hls
  have hKn := hK.1 ci _ hc
  refine W.newcK hx hb hown (hts _ w1) (hts _ w2) (hts _ w3) rfl d (by rw [r3]; exact hce) (by rw [r4]; exact hsl) hKn.2.1 rfl fun H1 kC hkC e1 z1 o1 => ?_
  have hs := hH.1
  rw [hs] at e1
  have hg := kk H1 locs ls (hH.push (x := .inr (ci, fs)) ⟨_, hc, by rw [ab_nr hnr]; exact (u_born ty0 hts hin hKn hkC e1 hty).to hfs⟩ z1 o1) hL hls
  rw [hs]
  exact hg
theorem a_newa (X : ab_X E l G m cc nL own ini ret fr lo mc ms Post) {t N : Nat} {n : Int32} {aty : ArrayType} {a0 : vp_A} (d : decode cc pc = .ok (.newarray aty, 2)) (hw : Cond.arrayClass (newarray.typeOf aty) ∈ ab_tbl) (ht : ab_tys[t]? = some (newarray.typeOf aty)) (hn : ¬ n < 0) (hN : n.toNatClampNeg = N) (hby : N * componentBytes (newarray.typeOf aty) ≤ 536870912) (ha : ∀ cA : ClassId, vp_cell cA (ab_a E a0) = arrV cA N (fun _ => defaultValue (newarray.typeOf aty))) (hnm : ∀ (U : State) (cA : ClassId), va_RA U cA (newarray.typeOf aty) → U.vm.findClass ("[" ++ (newarray.typeOf aty).toString) = some cA) (hce : ce + 1 ≤ mc) (hsl : sl + N ≤ ms) (kk : ab_R E G m nL (ce + 1) (sl + N) (pc + 2) lv (.ref (h.length + 1) :: st) (h ++ [.inl (t, a0)])) : ab_R E G m nL ce sl pc lv (.int n :: st) h := by
  obtain ⟨p, e, s, args, below, meth, c, R, Q, rfl, hQ, hx, hb, hml, hown, hts, hr, hlk, hK, r1, r2, r3, r4, hini⟩ := X
  intro H locs ls hH hL hls
  refine va_newaK hx hb (hts _ hw) rfl d rfl hn hN hby (by rw [r3]; exact hce) (by rw [r4]; exact hsl) rfl fun H1 cA e1 z1 o1 hAr hNm => ?_
  have hcA : cA = E.2.1 t := Option.some.inj (hNm.symm.trans (hnm _ _ (hK.2.1 t _ ht).2))
  subst hcA
  have hs := hH.1
  rw [hs] at e1
  have hg := kk H1 locs ls (hH.push (x := .inl (t, a0)) (by show H1[_]? = some (vp_cell _ _); rw [e1, ← ha]) z1 o1) hL hls
  rw [hs]
  exact hg
theorem a_newq (X : ab_X E l G m cc nL own ini ret fr lo mc ms Post) {i t N : Nat} {n : Int32} {C : String} (d : decode cc pc = .ok (.anewarray i, 3)) (hw : Cond.classLink own i C ∈ ab_tbl) (hao : C ∈ ab_ao) (ht : ab_tys[t]? = some (.object C)) (hn : ¬ n < 0) (hN : n.toNatClampNeg = N) (hby : N * 4 ≤ 536870912) (hce : ce + 1 ≤ mc) (hsl : sl + N ≤ ms) (kk : ab_R E G m nL (ce + 1) (sl + N) (pc + 3) lv (.ref (h.length + 1) :: st) (h ++ [.inl (t, N, .inr (.inr (.inr (.inr (fun _ => none)))))])) : ab_R E G m nL ce sl pc lv (.int n :: st) h := by
  obtain ⟨p, e, s, args, below, meth, c, R, Q, rfl, hQ, hx, hb, hml, hown, hts, hr, hlk, hK, r1, r2, r3, r4, hini⟩ := X
  intro H locs ls hH hL hls
  subst hN
  refine W.anew hx hb hown (hts _ hw) (va_AO.use (hK.2.2.2.2.1 C hao)) rfl d rfl hn hby (by rw [r3]; exact hce) (by rw [r4]; exact hsl) fun cA kA comp f1 f2 f3 f4 => ?_
  obtain ⟨-, -, -, -, -, hNm⟩ := (hK.2.1 t _ ht).2
  have hcA : cA = E.2.1 t := Option.some.inj (f1.symm.trans hNm)
  subst hcA
  have hs := hH.1
  refine W.eq (congrArg (fun z => F0 m (pc + 3) ls (.ref z :: st.map (ab_v E))) hs) ?_
  refine kk _ locs ls (hH.push (x := .inl (t, n.toNatClampNeg, .inr (.inr (.inr (.inr (fun _ => none)))))) ?_ (Array.size_push ..) (fun q hq => by rw [Array.getElem?_push, if_neg (Nat.ne_of_lt hq)])) hL hls
  show (Array.push H _)[_]? = some (vp_cell _ _)
  rw [← hs, Array.getElem?_push_size, arrV_new]
  rfl
theorem ab_outer (c : ClassId) (N h0 : Nat) : ∀ i : Nat, Jvm.Free.Multi.outerC c N h0 i = arrV c N (fun j => va_rf (if j < i then some (h0 + 1 + j) else none))
  | 0 => by
    show ({ cls := c, slots := Array.replicate N .null, vm := .none } : Cell) = _
    rw [arrV_new]
    refine congrArg (arrV c N) (funext fun j => ?_)
    simp [va_rf]
  | i + 1 => by
    show (Jvm.Free.Multi.outerC c N h0 i).setSlot i (.ref (h0 + 1 + i)) = _
    rw [ab_outer c N h0 i, arrV_store]
    refine congrArg (arrV c N) (funext fun j => ?_)
    by_cases e : j = i
    · subst e
      simp [updV, va_rf]
    · by_cases h : j < i
      · simp [updV, e, h, Nat.lt_succ_of_lt h]
      · simp [updV, e, h, show ¬ j < i + 1 by omega]
theorem a_mna (X : ab_X E l G m cc nL own ini ret fr lo mc ms Post) {i to ti N K : Nat} {n k : Int32} {ty : FieldType} {z : vp_A} (d : decode cc pc = .ok (.multianewarray i 2, 4)) (hw : Cond.classLink own i ("[" ++ (FieldType.array ty).toString) ∈ ab_tbl) (haa : ty ∈ ab_aa) (hwa : Cond.arrayClass ty ∈ ab_tbl) (hto : ab_tys[to]? = some (.array ty)) (hti : ab_tys[ti]? = some ty) (hob : ∀ (U : State) (cA : ClassId), va_RA U cA ty → U.vm.findClass (FieldType.array ty).toString = some cA)
    (hn : ¬ n < 0) (hk : ¬ k < 0) (hN : n.toNatClampNeg = N) (hM : k.toNatClampNeg = K) (hb1 : N * 4 ≤ 536870912) (hb2 : K * componentBytes ty ≤ 536870912) (hb3 : K ≤ 536870912) (hdf : fits ty (defaultValue ty) = true) (hdd : (defaultValue ty).isDefault = true) (hz : ∀ c : ClassId, Jvm.Free.Multi.innerC c K (defaultValue ty) = vp_cell c (ab_a E z)) (hce : ce + (1 + N) ≤ mc) (hsl : sl + (N + N * K) ≤ ms)
    (kk : ab_R E G m nL (ce + 1 + N) (sl + N + N * K) (pc + 4) lv (.ref (h.length + 1) :: st) (h ++ (.inl (to, N, .inr (.inr (.inr (.inr (fun j => if j < N then some (h.length + 2 + j) else none))))) :: List.replicate N (.inl (ti, z))))) : ab_R E G m nL ce sl pc lv (.int k :: .int n :: st) h := by
  obtain ⟨p, e, s, args, below, meth, c, R, Q, rfl, hQ, hx, hb, hml, hown, hts, hr, hlk, hK, r1, r2, r3, r4, hini⟩ := X
  intro H locs ls hH hL hls
  subst hN
  subst hM
  intro T hT Xs
  obtain ⟨vm₁, cA, comp, -, fA, fC, hO, -, X', step⟩ := Xs.multianewarray2F hx hown (hts _ hw) (hK.2.2.2.2.2.1 ty haa) (hts _ hwa) (g := F0 m pc ls (.int k :: .int n :: st.map (ab_v E))) rfl (by rw [hb]; exact d) rfl hn hk hb1 hb2 hb3 hdf hdd (by rw [r3]; exact hce) (by rw [r4]; exact hsl)
  have hcA : cA = E.2.1 to := Option.some.inj (fA.symm.trans (hK.2.1 to _ hto).2)
  have hcp : comp = E.2.1 ti := Option.some.inj (fC.symm.trans (hob _ _ (hK.2.1 ti _ hti).2))
  subst hcA
  subst hcp
  generalize hF : Jvm.Free.Multi.fill (T.setVm vm₁) (E.2.1 to) (E.2.1 ti) n.toNatClampNeg k.toNatClampNeg (defaultValue ty) n.toNatClampNeg = F at X' step
  have hTh : (T.setVm vm₁).heap = H := hT
  obtain ⟨f1, f2, -, -⟩ := Jvm.Free.Multi.fill_facts (T.setVm vm₁) (E.2.1 to) (E.2.1 ti) n.toNatClampNeg k.toNatClampNeg (defaultValue ty) n.toNatClampNeg
  rw [hF, hTh] at f1 f2
  have hold : ∀ x : Nat, x < H.size → F.heap[x]? = H[x]? := fun x hx => by
    have := Jvm.Free.Multi.fill_old (T.setVm vm₁) (E.2.1 to) (E.2.1 ti) n.toNatClampNeg k.toNatClampNeg (defaultValue ty) (a := x) (by rw [hTh]; exact hx) n.toNatClampNeg
    rw [hF, hTh] at this
    exact this
  have hrow : ∀ j : Nat, j < n.toNatClampNeg → F.heap[H.size + 1 + j]? = some (vp_cell (E.2.1 ti) (ab_a E z)) := fun j hj => by
    have := Jvm.Free.Multi.fill_inner (T.setVm vm₁) (E.2.1 to) (E.2.1 ti) n.toNatClampNeg k.toNatClampNeg (defaultValue ty) n.toNatClampNeg j hj
    rw [hF, hTh, hz] at this
    exact this
  have hs := hH.1
  have hat : ∀ (j : Nat) (x : ab_C), ((.inl (to, n.toNatClampNeg, .inr (.inr (.inr (.inr (fun j => if j < n.toNatClampNeg then some (h.length + 2 + j) else none))))) :: List.replicate n.toNatClampNeg (.inl (ti, z))) : List ab_C)[j]? = some x → va_at E.1 classes (ab_n E + (h.length + j), ab_c E x) F.heap := by
    intro j x hx
    match j, hx with
    | 0, hx =>
      cases hx
      show F.heap[ab_n E + h.length]? = some (arrV (E.2.1 to) n.toNatClampNeg (fun j => va_rf ((if j < n.toNatClampNeg then some (h.length + 2 + j) else none : Option Nat).map (ab_ad E))))
      rw [← hs, f2, ab_outer]
      congr 2
      funext j
      by_cases hj : j < n.toNatClampNeg
      · rw [if_pos hj, if_pos hj, hs]
        show Value.ref (ab_n E + h.length + 1 + j) = Value.ref (ab_ad E (h.length + 2 + j))
        rw [show h.length + 2 + j = (h.length + 1 + j) + 1 by omega]
        show Value.ref (ab_n E + h.length + 1 + j) = Value.ref (ab_n E + (h.length + 1 + j))
        rw [show ab_n E + h.length + 1 + j = ab_n E + (h.length + 1 + j) from by omega]
      · rw [if_neg hj, if_neg hj]
        rfl
    | j + 1, hx =>
      have hx : (List.replicate n.toNatClampNeg (Sum.inl (ti, z) : ab_C))[j]? = some x := hx
      rw [List.getElem?_replicate] at hx
      by_cases hj : j < n.toNatClampNeg
      · rw [if_pos hj] at hx
        cases hx
        show F.heap[ab_n E + (h.length + (j + 1))]? = some (vp_cell (E.2.1 ti) (ab_a E z))
        rw [show ab_n E + (h.length + (j + 1)) = H.size + 1 + j by omega]
        exact hrow j hj
      · rw [if_neg hj] at hx
        cases hx
  obtain ⟨t, a1, b1⟩ := kk F.heap locs ls (hH.pushes hat (by rw [f1, List.length_cons, List.length_replicate]; omega) hold) hL hls F rfl X'
  refine ⟨t, step t ?_, b1⟩
  have e : T.heap.size = ab_ad E (h.length + 1) := by rw [hT, hs]; rfl
  rw [e]
  exact a1
theorem a_objInit (X : ab_X E l G m cc nL own ini ret fr lo mc ms Post) {i a : Nat} (hw : Cond.methodLink own i objectInit ∈ ab_tbl) (hw1 : Cond.instanceMethod objectInit ∈ ab_tbl) (hw2 : Cond.code objectInit ⟨#[0xb1]⟩ 1 none ∈ ab_tbl) (d : decode cc pc = .ok (.invokespecial i, 3)) (hfr : 1 ≤ fr) (hlo : (st.map fun v => v.category).sum + 12 ≤ lo) (kk : ab_R E G m nL ce sl (pc + 3) lv st h) : ab_R E G m nL ce sl pc lv (.ref a :: st) h := by
  obtain ⟨p, e, s, args, below, meth, c, R, Q, rfl, hQ, hx, hb, hml, hown, hts, hr, hlk, hK, r1, r2, r3, r4, hini⟩ := X
  intro H locs ls hH hL hls
  refine W.objInit hx hb hown (hts _ hw) (hts _ hw1) (hts _ hw2) rfl (by rw [hml]; exact hls.1) rfl d (by omega) ?_ (kk H locs ls hH hL hls)
  rw [ab_catS, r2]
  show 2 * 0 + _ + 12 ≤ lo
  omega
theorem a_iret {P : Option Value → List ab_C → Prop} (X : ab_X E l G m cc nL own ini (some .int) fr lo mc ms (some P)) {v : Int32} (d : decode cc pc = .ok (.ireturn, 1)) (hce : ce ≤ mc) (hsl : sl ≤ ms) (hq : P (some (.int v)) h) : ab_R E G m nL ce sl pc lv [.int v] h := by
  obtain ⟨p, e, s, args, below, meth, c, R, Q, rfl, hQ, hx, hb, hml, hown, hts, hr, hlk, hK, r1, r2, r3, r4, hini⟩ := X
  intro H locs ls hH hL hls
  obtain rfl := hQ P rfl
  exact W.widen hce hsl (W.iret hx hb hr (fun t ht _ => ⟨some (.int v), h, rfl, hq, ht ▸ hH⟩) hL d hlk)
theorem a_zret {P : Option Value → List ab_C → Prop} {ty : FieldType} (X : ab_X E l G m cc nL own ini (some ty) fr lo mc ms (some P)) {v : Int32} (hn : narrow ty (.int v) = .int v) (d : decode cc pc = .ok (.ireturn, 1)) (hce : ce ≤ mc) (hsl : sl ≤ ms) (hq : P (some (.int v)) h) : ab_R E G m nL ce sl pc lv [.int v] h := by
  obtain ⟨p, e, s, args, below, meth, c, R, Q, rfl, hQ, hx, hb, hml, hown, hts, hr, hlk, hK, r1, r2, r3, r4, hini⟩ := X
  intro H locs ls hH hL hls
  obtain rfl := hQ P rfl
  exact W.widen hce hsl (W.zret hx hb hr hn (fun t ht _ => ⟨some (.int v), h, rfl, hq, ht ▸ hH⟩) hL d hlk)
theorem a_lret {P : Option Value → List ab_C → Prop} (X : ab_X E l G m cc nL own ini (some .long) fr lo mc ms (some P)) {v : Int64} (d : decode cc pc = .ok (.lreturn, 1)) (hce : ce ≤ mc) (hsl : sl ≤ ms) (hq : P (some (.long v)) h) : ab_R E G m nL ce sl pc lv [.long v] h := by
  obtain ⟨p, e, s, args, below, meth, c, R, Q, rfl, hQ, hx, hb, hml, hown, hts, hr, hlk, hK, r1, r2, r3, r4, hini⟩ := X
  intro H locs ls hH hL hls
  obtain rfl := hQ P rfl
  exact W.widen hce hsl (W.lret hx hb hr (fun t ht _ => ⟨some (.long v), h, rfl, hq, ht ▸ hH⟩) hL d hlk)
theorem a_aret {P : Option Value → List ab_C → Prop} {rt : FieldType} (X : ab_X E l G m cc nL own ini (some rt) fr lo mc ms (some P)) {v : Nat} (hrt : (∃ n, rt = .object n) ∨ ∃ t, rt = .array t) (d : decode cc pc = .ok (.areturn, 1)) (hce : ce ≤ mc) (hsl : sl ≤ ms) (hq : P (some (.ref v)) h) : ab_R E G m nL ce sl pc lv [.ref v] h := by
  obtain ⟨p, e, s, args, below, meth, c, R, Q, rfl, hQ, hx, hb, hml, hown, hts, hr, hlk, hK, r1, r2, r3, r4, hini⟩ := X
  intro H locs ls hH hL hls
  obtain rfl := hQ P rfl
  exact W.widen hce hsl (W.aret hx hb hr hrt (Or.inr ⟨_, rfl⟩) (fun t ht _ => ⟨some (.ref v), h, rfl, hq, ht ▸ hH⟩) hL d hlk)
theorem a_vret {P : Option Value → List ab_C → Prop} (X : ab_X E l G m cc nL own ini none fr lo mc ms (some P)) (d : decode cc pc = .ok (.return_, 1)) (hce : ce ≤ mc) (hsl : sl ≤ ms) (hq : P none h) : ab_R E G m nL ce sl pc lv [] h := by
  obtain ⟨p, e, s, args, below, meth, c, R, Q, rfl, hQ, hx, hb, hml, hown, hts, hr, hlk, hK, r1, r2, r3, r4, hini⟩ := X
  intro H locs ls hH hL hls
  obtain rfl := hQ P rfl
  exact W.widen hce hsl (W.vret hx hb hr (fun t ht _ => ⟨none, h, rfl, hq, ht ▸ hH⟩) hL d hlk)
theorem ab_blind {E : ab_E} {av : List Value} {h : List ab_C} : FrameBlind (ab_P E av h) := fun _ _ _ _ q => ⟨q.1, q.2.1, q.2.2.same rfl⟩
theorem ab_ret {E : ab_E} (r : Option Value) (st : List Value) : (r.map (ab_v E)).toList ++ st.map (ab_v E) = (r.toList ++ st).map (ab_v E) := by cases r <;> rfl
theorem ab_gd {y : MethodName} {bytes : ByteArray} {maxL : Nat} {ret : Option FieldType} (hc : Cond.code y bytes maxL ret ∈ ab_tbl) : GoodIn ab_tbl (.code y bytes maxL ret :: ab_tbl) := fun w hw => by
  rcases List.mem_cons.mp hw with rfl | g
  · exact ab_good _ hc
  · exact ab_good w g
def ab_B (y : MethodName) (bytes : ByteArray) (maxL : Nat) (ret : Option FieldType) (n : Nat) : Prop := Cond.code y bytes maxL ret ∈ ab_tbl ∧ Cond.initialized y.cls ∈ ab_tbl ∧ (y.cls ≠ "java/lang/invoke/MethodHandle" ∧ y.cls ≠ "java/lang/invoke/VarHandle" ∧ (parseMethodDescriptor y.desc).map (fun d => d.parameters.length) = some n)
theorem ab_after {p : Program} {e : Env} {R : Room} {s : State} {args : Array Value} {below : List Frame} {meth : Method} {c : Code} {H : Heap} {locs : List Loc} {ls : Array Slot} {mc1 ms1 : Nat} {st0 : List Value} {a : Array Value} {Q : State → Prop} {P1 : Option Value → List ab_C → Prop}
    (hr : va_Run p l e R s m args below meth c H locs ce sl mc1 ms1 (F0 m pc ls st0) (st.map (ab_v E)) (ab_Q E P1 a) (fun q => ab_n E ≤ q)) (hL : ∀ q ∈ locs, ab_n E ≤ q.base)
    (kk : ∀ (r : Option Value) (h1 : List ab_C), P1 r h1 → ∀ (H1 : Heap) (locs1 : List Loc), ab_H E h1 H1 → (∀ q ∈ locs1, ab_n E ≤ q.base) → W p l e R s m args below meth c H1 locs1 (ce + mc1) (sl + ms1) Q (F0 m (pc + 3) ls ((r.toList ++ st).map (ab_v E)))) : W p l e R s m args below meth c H locs ce sl Q (F0 m pc ls st0) := by
  intro T hT X
  obtain ⟨v, st₀, t, T', L, h0, X', hLL, e1, e2, ⟨r, h1, hv, hp, hh⟩, stp⟩ := hr T hT X
  have hv := Outcome.returned.inj hv
  subst hv
  obtain ⟨t2, a1, b1⟩ := kk r h1 hp T'.heap (locs ++ L) (by rw [e1]; exact hh) (fun q hq => by
    rcases List.mem_append.mp hq with g | g
    · exact hL q g
    · exact hLL q g) T' rfl X'
  rw [← ab_ret] at a1
  exact ⟨t2, stp t2 a1, b1⟩
theorem a_callV (X : ab_X E l G m cc nL own ini ret fr lo mc ms Post) {idx maxL n f1 l1 mc1 ms1 : Nat} {y : MethodName} {bytes : ByteArray} {As stk : List Value} {P1 : Option Value → List ab_C → Prop} {r1t : Option FieldType} {a ci N : Nat} {T : u_T} {fs : List Value} (hrc : h[a]? = some (.inr (ci, fs))) (hcl : classes[ci]? = some (y.cls, T, N)) (hB : ab_B y bytes maxL r1t n) (hw : Cond.methodLink own idx y ∈ ab_tbl) (hw1 : Cond.instanceMethod y ∈ ab_tbl) (hw2 : Cond.selects y.cls y y ∈ ab_tbl) (hC : ab_Con E l y bytes maxL r1t f1 l1 (.ref (a + 1) :: As) h mc1 ms1 P1) (hn : As.length = n) (hstk : stk = As.reverse ++ .ref (a + 1) :: st) (h8 : (st.map fun v => v.category).sum ≤ 8) (hfr : f1 + 1 ≤ fr) (hlo : 19 + maxL + l1 ≤ lo) (hce : ce + mc1 ≤ mc) (hsl : sl + ms1 ≤ ms) (d : decode cc pc = .ok (.invokevirtual idx, 3)) (kk : ∀ (r : Option Value) (h1 : List ab_C), P1 r h1 → ab_R E G m nL (ce + mc1) (sl + ms1) (pc + 3) lv (r.toList ++ st) h1) : ab_R E G m nL ce sl pc lv stk h := by
  obtain ⟨p, e, s, args, below, meth, c, R, Q, rfl, hQ, hx, hb, hml, hown, hts, hr, hlk, hK, r1, r2, r3, r4, hini⟩ := X
  obtain ⟨b1, b2, b3⟩ := hB
  intro H locs ls hH hL hls
  have hR : f1 + 1 ≤ R.frames ∧ 8 + (maxL + 11) + l1 ≤ R.locals := by rw [r1, r2]; omega
  refine ab_after (st := st) (va_runV (Ts := ab_tbl) (own := own) (C := y.cls) (b := ab_n E + a) (As := As.map (ab_v E)) (rest := st.map (ab_v E)) ⟨hx, hb, hml, hown, hts⟩ hC ⟨callB_of (rm := { frames := f1, cells := mc1, slots := ms1, locals := l1 }) n hts (ab_gd b1) rfl rfl rfl (hts _ b2) (hts _ hw) b3 hR, hts _ hw1, hts _ hw2⟩ ⟨ab_blind, va_recv hK.va (ab_one hH hrc) (ci := ci) (q0 := 0) hcl rfl, fun U hU hW => ⟨rfl, by rw [hU]; exact hH, hK.moved hW⟩⟩ rfl (by rw [List.length_map]; exact hn) hls.1 (by rw [hstk]; simp [ab_v, ab_ad]) (by rw [ab_catS]; show 2 * 0 + _ ≤ 8; omega) d (by rw [r3, r4]; exact ⟨hce, hsl⟩)) hL (fun r h1 hp H1 locs1 hH1 hL1 => kk r h1 hp H1 locs1 ls hH1 hL1 hls)
theorem a_callS (X : ab_X E l G m cc nL own ini ret fr lo mc ms Post) {idx maxL n f1 l1 mc1 ms1 : Nat} {y : MethodName} {bytes : ByteArray} {As stk : List Value} {P1 : Option Value → List ab_C → Prop} {r1t : Option FieldType} (hB : ab_B y bytes maxL r1t n) (hw : Cond.methodLink own idx y ∈ ab_tbl) (hw1 : Cond.static y ∈ ab_tbl) (hC : ab_Con E l y bytes maxL r1t f1 l1 As h mc1 ms1 P1) (hn : As.length = n) (hstk : stk = As.reverse ++ st) (h8 : (st.map fun v => v.category).sum ≤ 8) (hfr : f1 + 1 ≤ fr) (hlo : 19 + maxL + l1 ≤ lo) (hce : ce + mc1 ≤ mc) (hsl : sl + ms1 ≤ ms) (d : decode cc pc = .ok (.invokestatic idx, 3)) (kk : ∀ (r : Option Value) (h1 : List ab_C), P1 r h1 → ab_R E G m nL (ce + mc1) (sl + ms1) (pc + 3) lv (r.toList ++ st) h1) : ab_R E G m nL ce sl pc lv stk h := by
  obtain ⟨p, e, s, args, below, meth, c, R, Q, rfl, hQ, hx, hb, hml, hown, hts, hr, hlk, hK, r1, r2, r3, r4, hini⟩ := X
  obtain ⟨b1, b2, b3⟩ := hB
  intro H locs ls hH hL hls
  have hR : f1 + 1 ≤ R.frames ∧ 8 + (maxL + 11) + l1 ≤ R.locals := by rw [r1, r2]; omega
  refine ab_after (st := st) (va_runS (Ts := ab_tbl) (own := own) (As := As.map (ab_v E)) (rest := st.map (ab_v E)) ⟨hx, hb, hml, hown, hts⟩ hC ⟨callB_of (rm := { frames := f1, cells := mc1, slots := ms1, locals := l1 }) n hts (ab_gd b1) rfl rfl rfl (hts _ b2) (hts _ hw) b3 hR, hts _ hw1⟩ ⟨ab_blind, fun U hU hW => ⟨rfl, by rw [hU]; exact hH, hK.moved hW⟩⟩ rfl (by rw [List.length_map]; exact hn) hls.1 (by rw [hstk]; simp [ab_v, ab_ad]) (by rw [ab_catS]; show 2 * 0 + _ ≤ 8; omega) d (by rw [r3, r4]; exact ⟨hce, hsl⟩)) hL (fun r h1 hp H1 locs1 hH1 hL1 => kk r h1 hp H1 locs1 ls hH1 hL1 hls)
theorem a_callI (X : ab_X E l G m cc nL own ini ret fr lo mc ms Post) {idx maxL n f1 l1 mc1 ms1 : Nat} {y : MethodName} {bytes : ByteArray} {As stk : List Value} {P1 : Option Value → List ab_C → Prop} {a : Nat} (hB : ab_B y bytes maxL none n) (hw : Cond.methodLink own idx y ∈ ab_tbl) (hw1 : Cond.instanceMethod y ∈ ab_tbl) (hy : y.name = "<init>") (hC : ab_Con E l y bytes maxL none f1 l1 (.ref (a + 1) :: As) h mc1 ms1 P1) (hn : As.length = n) (hstk : stk = As.reverse ++ .ref (a + 1) :: st) (h8 : (st.map fun v => v.category).sum ≤ 8) (hfr : f1 + 1 ≤ fr) (hlo : 19 + maxL + l1 ≤ lo) (hce : ce + mc1 ≤ mc) (hsl : sl + ms1 ≤ ms) (d : decode cc pc = .ok (.invokespecial idx, 3)) (kk : ∀ (r : Option Value) (h1 : List ab_C), P1 r h1 → ab_R E G m nL (ce + mc1) (sl + ms1) (pc + 3) lv (r.toList ++ st) h1) : ab_R E G m nL ce sl pc lv stk h := by
  obtain ⟨p, e, s, args, below, meth, c, R, Q, rfl, hQ, hx, hb, hml, hown, hts, hr, hlk, hK, r1, r2, r3, r4, hini⟩ := X
  obtain ⟨b1, b2, b3⟩ := hB
  intro H locs ls hH hL hls
  have hR : f1 + 1 ≤ R.frames ∧ 8 + (maxL + 11) + l1 ≤ R.locals := by rw [r1, r2]; omega
  refine ab_after (st := st) (va_runI (Ts := ab_tbl) (own := own) (b := ab_n E + a) (As := As.map (ab_v E)) (rest := st.map (ab_v E)) ⟨hx, hb, hml, hown, hts⟩ hC ⟨callB_of (rm := { frames := f1, cells := mc1, slots := ms1, locals := l1 }) n hts (ab_gd b1) rfl rfl rfl (hts _ b2) (hts _ hw) b3 hR, hy, hts _ hw1⟩ ⟨ab_blind, fun U hU hW => ⟨rfl, by rw [hU]; exact hH, hK.moved hW⟩⟩ rfl (by rw [List.length_map]; exact hn) hls.1 (by rw [hstk]; simp [ab_v, ab_ad]) (by rw [ab_catS]; show 2 * 0 + _ ≤ 8; omega) d (by rw [r3, r4]; exact ⟨hce, hsl⟩)) hL (fun r h1 hp H1 locs1 hH1 hL1 => kk r h1 hp H1 locs1 ls hH1 hL1 hls)
theorem a_callVN (X : ab_X E l G m cc nL own ini ret fr lo mc ms Post) {idx maxL n f1 l1 mc1 ms1 : Nat} {y : MethodName} {bytes : ByteArray} {As stk : List Value} {P1 : Option Value → List ab_C → Prop} {r1t : Option FieldType} {hst : String} {a ci N : Nat} {T : u_T} {fs : List Value} (hrc : h[a]? = some (.inr (ci, fs))) (hcl : classes[ci]? = some (y.cls, T, N)) (hB : ab_B y bytes maxL r1t n) (hw : (own, idx, y, hst) ∈ ab_nm) (hw1 : Cond.instanceMethod y ∈ ab_tbl) (hw2 : Cond.selects y.cls y y ∈ ab_tbl) (hC : ab_Con E l y bytes maxL r1t f1 l1 (.ref (a + 1) :: As) h mc1 ms1 P1) (hn : As.length = n) (hstk : stk = As.reverse ++ .ref (a + 1) :: st) (h8 : (st.map fun v => v.category).sum ≤ 8) (hfr : f1 + 1 ≤ fr) (hlo : 19 + maxL + l1 ≤ lo) (hce : ce + mc1 ≤ mc) (hsl : sl + ms1 ≤ ms) (d : decode cc pc = .ok (.invokevirtual idx, 3)) (kk : ∀ (r : Option Value) (h1 : List ab_C), P1 r h1 → ab_R E G m nL (ce + mc1) (sl + ms1) (pc + 3) lv (r.toList ++ st) h1) : ab_R E G m nL ce sl pc lv stk h := by
  obtain ⟨p, e, s, args, below, meth, c, R, Q, rfl, hQ, hx, hb, hml, hown, hts, hr, hlk, hK, r1, r2, r3, r4, hini⟩ := X
  obtain ⟨b1, b2, b3⟩ := hB
  intro H locs ls hH hL hls
  have hR : f1 + 1 ≤ R.frames ∧ 8 + (maxL + 11) + l1 ≤ R.locals := by rw [r1, r2]; omega
  refine ab_after (st := st) (va_runVN (Ts := ab_tbl) (own := own) (C := y.cls) (b := ab_n E + a) (As := As.map (ab_v E)) (rest := st.map (ab_v E)) ⟨hx, hb, hml, hown, hts⟩ hC ⟨va_cnB (rm := { frames := f1, cells := mc1, slots := ms1, locals := l1 }) n hts (ab_gd b1) rfl rfl rfl (hK.2.2.2.1 _ hw) (hts _ b2) b3 hR, hts _ hw1, hts _ hw2⟩ ⟨ab_blind, va_recv hK.va (ab_one hH hrc) (ci := ci) (q0 := 0) hcl rfl, fun U hU hW => ⟨rfl, by rw [hU]; exact hH, hK.moved hW⟩⟩ rfl (by rw [List.length_map]; exact hn) hls.1 (by rw [hstk]; simp [ab_v, ab_ad]) (by rw [ab_catS]; show 2 * 0 + _ ≤ 8; omega) d (by rw [r3, r4]; exact ⟨hce, hsl⟩)) hL (fun r h1 hp H1 locs1 hH1 hL1 => kk r h1 hp H1 locs1 ls hH1 hL1 hls)
theorem a_callSN (X : ab_X E l G m cc nL own ini ret fr lo mc ms Post) {idx maxL n f1 l1 mc1 ms1 : Nat} {y : MethodName} {bytes : ByteArray} {As stk : List Value} {P1 : Option Value → List ab_C → Prop} {r1t : Option FieldType} {hst : String} (hB : ab_B y bytes maxL r1t n) (hw : (own, idx, y, hst) ∈ ab_nm) (hw1 : Cond.static y ∈ ab_tbl) (hC : ab_Con E l y bytes maxL r1t f1 l1 As h mc1 ms1 P1) (hn : As.length = n) (hstk : stk = As.reverse ++ st) (h8 : (st.map fun v => v.category).sum ≤ 8) (hfr : f1 + 1 ≤ fr) (hlo : 19 + maxL + l1 ≤ lo) (hce : ce + mc1 ≤ mc) (hsl : sl + ms1 ≤ ms) (d : decode cc pc = .ok (.invokestatic idx, 3)) (kk : ∀ (r : Option Value) (h1 : List ab_C), P1 r h1 → ab_R E G m nL (ce + mc1) (sl + ms1) (pc + 3) lv (r.toList ++ st) h1) : ab_R E G m nL ce sl pc lv stk h := by
  obtain ⟨p, e, s, args, below, meth, c, R, Q, rfl, hQ, hx, hb, hml, hown, hts, hr, hlk, hK, r1, r2, r3, r4, hini⟩ := X
  obtain ⟨b1, b2, b3⟩ := hB
  intro H locs ls hH hL hls
  have hR : f1 + 1 ≤ R.frames ∧ 8 + (maxL + 11) + l1 ≤ R.locals := by rw [r1, r2]; omega
  refine ab_after (st := st) (va_runSN (Ts := ab_tbl) (own := own) (As := As.map (ab_v E)) (rest := st.map (ab_v E)) ⟨hx, hb, hml, hown, hts⟩ hC ⟨va_cnB (rm := { frames := f1, cells := mc1, slots := ms1, locals := l1 }) n hts (ab_gd b1) rfl rfl rfl (hK.2.2.2.1 _ hw) (hts _ b2) b3 hR, hts _ hw1, trivial⟩ ⟨ab_blind, fun U hU hW => ⟨rfl, by rw [hU]; exact hH, hK.moved hW⟩⟩ rfl (by rw [List.length_map]; exact hn) hls.1 (by rw [hstk]; simp [ab_v, ab_ad]) (by rw [ab_catS]; show 2 * 0 + _ ≤ 8; omega) d (by rw [r3, r4]; exact ⟨hce, hsl⟩)) hL (fun r h1 hp H1 locs1 hH1 hL1 => kk r h1 hp H1 locs1 ls hH1 hL1 hls)
theorem a_callIN (X : ab_X E l G m cc nL own ini ret fr lo mc ms Post) {idx maxL n f1 l1 mc1 ms1 : Nat} {y : MethodName} {bytes : ByteArray} {As stk : List Value} {P1 : Option Value → List ab_C → Prop} {hst : String} {a : Nat} (hB : ab_B y bytes maxL none n) (hw : (own, idx, y, hst) ∈ ab_nm) (hw1 : Cond.instanceMethod y ∈ ab_tbl) (hy : y.name = "<init>") (hC : ab_Con E l y bytes maxL none f1 l1 (.ref (a + 1) :: As) h mc1 ms1 P1) (hn : As.length = n) (hstk : stk = As.reverse ++ .ref (a + 1) :: st) (h8 : (st.map fun v => v.category).sum ≤ 8) (hfr : f1 + 1 ≤ fr) (hlo : 19 + maxL + l1 ≤ lo) (hce : ce + mc1 ≤ mc) (hsl : sl + ms1 ≤ ms) (d : decode cc pc = .ok (.invokespecial idx, 3)) (kk : ∀ (r : Option Value) (h1 : List ab_C), P1 r h1 → ab_R E G m nL (ce + mc1) (sl + ms1) (pc + 3) lv (r.toList ++ st) h1) : ab_R E G m nL ce sl pc lv stk h := by
  obtain ⟨p, e, s, args, below, meth, c, R, Q, rfl, hQ, hx, hb, hml, hown, hts, hr, hlk, hK, r1, r2, r3, r4, hini⟩ := X
  obtain ⟨b1, b2, b3⟩ := hB
  intro H locs ls hH hL hls
  have hR : f1 + 1 ≤ R.frames ∧ 8 + (maxL + 11) + l1 ≤ R.locals := by rw [r1, r2]; omega
  refine ab_after (st := st) (va_runIN (Ts := ab_tbl) (own := own) (b := ab_n E + a) (As := As.map (ab_v E)) (rest := st.map (ab_v E)) ⟨hx, hb, hml, hown, hts⟩ hC ⟨va_cnB (rm := { frames := f1, cells := mc1, slots := ms1, locals := l1 }) n hts (ab_gd b1) rfl rfl rfl (hK.2.2.2.1 _ hw) (hts _ b2) b3 hR, hy, hts _ hw1⟩ ⟨ab_blind, fun U hU hW => ⟨rfl, by rw [hU]; exact hH, hK.moved hW⟩⟩ rfl (by rw [List.length_map]; exact hn) hls.1 (by rw [hstk]; simp [ab_v, ab_ad]) (by rw [ab_catS]; show 2 * 0 + _ ≤ 8; omega) d (by rw [r3, r4]; exact ⟨hce, hsl⟩)) hL (fun r h1 hp H1 locs1 hH1 hL1 => kk r h1 hp H1 locs1 ls hH1 hL1 hls)
theorem ab_con {y : MethodName} {av : List Value} {P : Option Value → List ab_C → Prop} (hy : plainName y.cls = true) (hini : ini = true → y.name = "<init>") (ho : y.cls = own) (hlen : (lg_sl av).length ≤ nL)
    (body : ∀ (G : Heap → List Loc → Nat → Nat → JFrame → Prop) (m : MethodId), ab_X E l G m cc nL own ini ret fr lo mc ms (some P) → ab_R E G m nL 0 0 0 (lv_args 0 av) [] h) : ab_Con E l y cc nL ret fr lo av h mc ms P := by
  refine Met.ofW (cc := cc) (maxL := nL) (ret := ret) hy rfl ?_
  intro p e s m args below meth c s₁ B hml hv
  obtain ⟨rfl, hH, hK⟩ := hv
  have hts : ∀ w ∈ (Cond.code y cc nL ret :: ab_tbl), w.before (av.map (ab_v E)).toArray s = true := atoms_spec (ws := Cond.code y cc nL ret :: ab_tbl) B.pre
  have hown : s.vm.findClass own = some m.cls := by rw [← ho]; exact findClass_of_methodNamed B.named
  have hX : ab_X E l _ m cc nL own ini ret fr lo mc ms (some P) := ⟨p, e, s, _, below, meth, c, { frames := fr, cells := mc, slots := ms, locals := lo }, _, rfl, fun _ hP => by cases hP; rfl, B.exec, B.bytes, hml, hown, fun w hw => hts w (List.mem_cons_of_mem _ hw), B.returns, B.notSynchronized, hK, rfl, rfl, rfl, rfl, fun hi => ((name_of_methodNamed B.named B.method).1).trans (hini hi)⟩
  have hR := body _ m hX
  have hl := lv_entry (av.map (ab_v E)) (n := nL) (by rw [ab_slL]; exact hlen)
  rw [lg_entry_eq]
  rw [ab_args] at hl
  exact hR s.heap [] _ hH (fun q hq => by cases hq) hl
end ABR
