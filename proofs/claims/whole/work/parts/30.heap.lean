/-! the heap: what the constructors make, in their order; 203 cells of the class, 20 of the reference -/
abbrev hR : Type := (Nat → Int32) × (Nat → Int32) × Nat
abbrev hS : Type := (Nat → Nat → Int32) × (Nat → Nat → Int32) × Nat
abbrev hG : Type := Nat → Nat → Int64
abbrev hW : Type := hG × hG × hG × hG × hG × Int32
abbrev hL : Type := (Nat → Int64) × (Nat → Int32) × Nat
abbrev hB : Type := (Nat → hL) × Int32
abbrev hD : Type := Int64 × Int32 × Int32 × Int64 × Int32 × Int32
abbrev hK : Type := (Nat → Nat → Int32) × (Nat → Nat → Int32) × Nat
abbrev hT : Type := hG × hG × hG × hG × (Nat → Int32) × (Nat → Int32) × Nat × Int32
abbrev hA : Type := Nat × (Nat → Int32) × (Nat → Int32)
abbrev hC : Type := Int32 × Int64 × Int32 × (Nat → Int64) × (Nat → Int64) × (Nat → Int64) × Nat × (Nat → Int64) × (Nat → Int32)
abbrev hF : Type := (Nat → Int64) × (Nat → Int64) × (Nat → Int64)
abbrev hE : Type := (Nat → Int32) × (Nat → Int32) × (Nat → Int32)
/-- the class: row, states, sums, counts, best lists, drawing, kinds, tree tables -/
def hc (r : hR) (s : hS) (w c : hW) (b : hB) (d : hD) (k : hK) (t : hT) : List ab_C := [
  .inr (0, [.ref 2, .ref 5, .ref 16, .ref 54, .ref 92, .ref 169, .ref 170, .ref 181]),
  .inr (1, [.ref 3, .ref 4, .int (nI r.2.2)]),
  .inl (0, 6, .inl r.1),
  .inl (0, 6, .inl r.2.1),
  .inr (2, [.ref 6, .ref 11, .int (nI s.2.2)]),
  .inl (2, 4, .inr (.inr (.inr (.inr (fun j => if j < 4 then some (7 + j) else none))))),
  .inl (0, 9, .inl (s.1 0)),
  .inl (0, 9, .inl (s.1 1)),
  .inl (0, 9, .inl (s.1 2)),
  .inl (0, 9, .inl (s.1 3)),
  .inl (2, 4, .inr (.inr (.inr (.inr (fun j => if j < 4 then some (12 + j) else none))))),
  .inl (0, 4, .inl (s.2.1 0)),
  .inl (0, 4, .inl (s.2.1 1)),
  .inl (0, 4, .inl (s.2.1 2)),
  .inl (0, 4, .inl (s.2.1 3)),
  .inr (3, [.ref 2, .ref 5, .int 2147483647, .ref 17, .ref 24, .ref 31, .ref 39, .ref 47, .int w.2.2.2.2.2]),
  .inl (3, 6, .inr (.inr (.inr (.inr (fun j => if j < 6 then some (18 + j) else none))))),
  .inl (1, 4, .inr (.inl (w.1 0))),
  .inl (1, 4, .inr (.inl (w.1 1))),
  .inl (1, 4, .inr (.inl (w.1 2))),
  .inl (1, 4, .inr (.inl (w.1 3))),
  .inl (1, 4, .inr (.inl (w.1 4))),
  .inl (1, 4, .inr (.inl (w.1 5))),
  .inl (3, 6, .inr (.inr (.inr (.inr (fun j => if j < 6 then some (25 + j) else none))))),
  .inl (1, 4, .inr (.inl (w.2.1 0))),
  .inl (1, 4, .inr (.inl (w.2.1 1))),
  .inl (1, 4, .inr (.inl (w.2.1 2))),
  .inl (1, 4, .inr (.inl (w.2.1 3))),
  .inl (1, 4, .inr (.inl (w.2.1 4))),
  .inl (1, 4, .inr (.inl (w.2.1 5))),
  .inl (3, 7, .inr (.inr (.inr (.inr (fun j => if j < 7 then some (32 + j) else none))))),
  .inl (1, 4, .inr (.inl (w.2.2.1 0))),
  .inl (1, 4, .inr (.inl (w.2.2.1 1))),
  .inl (1, 4, .inr (.inl (w.2.2.1 2))),
  .inl (1, 4, .inr (.inl (w.2.2.1 3))),
  .inl (1, 4, .inr (.inl (w.2.2.1 4))),
  .inl (1, 4, .inr (.inl (w.2.2.1 5))),
  .inl (1, 4, .inr (.inl (w.2.2.1 6))),
  .inl (3, 7, .inr (.inr (.inr (.inr (fun j => if j < 7 then some (40 + j) else none))))),
  .inl (1, 4, .inr (.inl (w.2.2.2.1 0))),
  .inl (1, 4, .inr (.inl (w.2.2.2.1 1))),
  .inl (1, 4, .inr (.inl (w.2.2.2.1 2))),
  .inl (1, 4, .inr (.inl (w.2.2.2.1 3))),
  .inl (1, 4, .inr (.inl (w.2.2.2.1 4))),
  .inl (1, 4, .inr (.inl (w.2.2.2.1 5))),
  .inl (1, 4, .inr (.inl (w.2.2.2.1 6))),
  .inl (3, 6, .inr (.inr (.inr (.inr (fun j => if j < 6 then some (48 + j) else none))))),
  .inl (1, 4, .inr (.inl (w.2.2.2.2.1 0))),
  .inl (1, 4, .inr (.inl (w.2.2.2.2.1 1))),
  .inl (1, 4, .inr (.inl (w.2.2.2.2.1 2))),
  .inl (1, 4, .inr (.inl (w.2.2.2.2.1 3))),
  .inl (1, 4, .inr (.inl (w.2.2.2.2.1 4))),
  .inl (1, 4, .inr (.inl (w.2.2.2.2.1 5))),
  .inr (3, [.ref 2, .ref 5, .int 1, .ref 55, .ref 62, .ref 69, .ref 77, .ref 85, .int c.2.2.2.2.2]),
  .inl (3, 6, .inr (.inr (.inr (.inr (fun j => if j < 6 then some (56 + j) else none))))),
  .inl (1, 4, .inr (.inl (c.1 0))),
  .inl (1, 4, .inr (.inl (c.1 1))),
  .inl (1, 4, .inr (.inl (c.1 2))),
  .inl (1, 4, .inr (.inl (c.1 3))),
  .inl (1, 4, .inr (.inl (c.1 4))),
  .inl (1, 4, .inr (.inl (c.1 5))),
  .inl (3, 6, .inr (.inr (.inr (.inr (fun j => if j < 6 then some (63 + j) else none))))),
  .inl (1, 4, .inr (.inl (c.2.1 0))),
  .inl (1, 4, .inr (.inl (c.2.1 1))),
  .inl (1, 4, .inr (.inl (c.2.1 2))),
  .inl (1, 4, .inr (.inl (c.2.1 3))),
  .inl (1, 4, .inr (.inl (c.2.1 4))),
  .inl (1, 4, .inr (.inl (c.2.1 5))),
  .inl (3, 7, .inr (.inr (.inr (.inr (fun j => if j < 7 then some (70 + j) else none))))),
  .inl (1, 4, .inr (.inl (c.2.2.1 0))),
  .inl (1, 4, .inr (.inl (c.2.2.1 1))),
  .inl (1, 4, .inr (.inl (c.2.2.1 2))),
  .inl (1, 4, .inr (.inl (c.2.2.1 3))),
  .inl (1, 4, .inr (.inl (c.2.2.1 4))),
  .inl (1, 4, .inr (.inl (c.2.2.1 5))),
  .inl (1, 4, .inr (.inl (c.2.2.1 6))),
  .inl (3, 7, .inr (.inr (.inr (.inr (fun j => if j < 7 then some (78 + j) else none))))),
  .inl (1, 4, .inr (.inl (c.2.2.2.1 0))),
  .inl (1, 4, .inr (.inl (c.2.2.2.1 1))),
  .inl (1, 4, .inr (.inl (c.2.2.2.1 2))),
  .inl (1, 4, .inr (.inl (c.2.2.2.1 3))),
  .inl (1, 4, .inr (.inl (c.2.2.2.1 4))),
  .inl (1, 4, .inr (.inl (c.2.2.2.1 5))),
  .inl (1, 4, .inr (.inl (c.2.2.2.1 6))),
  .inl (3, 6, .inr (.inr (.inr (.inr (fun j => if j < 6 then some (86 + j) else none))))),
  .inl (1, 4, .inr (.inl (c.2.2.2.2.1 0))),
  .inl (1, 4, .inr (.inl (c.2.2.2.2.1 1))),
  .inl (1, 4, .inr (.inl (c.2.2.2.2.1 2))),
  .inl (1, 4, .inr (.inl (c.2.2.2.2.1 3))),
  .inl (1, 4, .inr (.inl (c.2.2.2.2.1 4))),
  .inl (1, 4, .inr (.inl (c.2.2.2.2.1 5))),
  .inr (4, [.ref 2, .ref 5, .ref 16, .ref 93, .ref 94, .int b.2]),
  .inl (4, 24, .inr (.inr (.inr (.inr (fun j => if j < 24 then some (97 + 3 * j) else none))))),
  .inr (5, [.ref 95, .ref 96, .int (nI (b.1 0).2.2)]),
  .inl (1, 10, .inr (.inl (b.1 0).1)),
  .inl (0, 10, .inl (b.1 0).2.1),
  .inr (5, [.ref 98, .ref 99, .int (nI (b.1 1).2.2)]),
  .inl (1, 10, .inr (.inl (b.1 1).1)),
  .inl (0, 10, .inl (b.1 1).2.1),
  .inr (5, [.ref 101, .ref 102, .int (nI (b.1 2).2.2)]),
  .inl (1, 10, .inr (.inl (b.1 2).1)),
  .inl (0, 10, .inl (b.1 2).2.1),
  .inr (5, [.ref 104, .ref 105, .int (nI (b.1 3).2.2)]),
  .inl (1, 10, .inr (.inl (b.1 3).1)),
  .inl (0, 10, .inl (b.1 3).2.1),
  .inr (5, [.ref 107, .ref 108, .int (nI (b.1 4).2.2)]),
  .inl (1, 10, .inr (.inl (b.1 4).1)),
  .inl (0, 10, .inl (b.1 4).2.1),
  .inr (5, [.ref 110, .ref 111, .int (nI (b.1 5).2.2)]),
  .inl (1, 10, .inr (.inl (b.1 5).1)),
  .inl (0, 10, .inl (b.1 5).2.1),
  .inr (5, [.ref 113, .ref 114, .int (nI (b.1 6).2.2)]),
  .inl (1, 10, .inr (.inl (b.1 6).1)),
  .inl (0, 10, .inl (b.1 6).2.1),
  .inr (5, [.ref 116, .ref 117, .int (nI (b.1 7).2.2)]),
  .inl (1, 10, .inr (.inl (b.1 7).1)),
  .inl (0, 10, .inl (b.1 7).2.1),
  .inr (5, [.ref 119, .ref 120, .int (nI (b.1 8).2.2)]),
  .inl (1, 10, .inr (.inl (b.1 8).1)),
  .inl (0, 10, .inl (b.1 8).2.1),
  .inr (5, [.ref 122, .ref 123, .int (nI (b.1 9).2.2)]),
  .inl (1, 10, .inr (.inl (b.1 9).1)),
  .inl (0, 10, .inl (b.1 9).2.1),
  .inr (5, [.ref 125, .ref 126, .int (nI (b.1 10).2.2)]),
  .inl (1, 10, .inr (.inl (b.1 10).1)),
  .inl (0, 10, .inl (b.1 10).2.1),
  .inr (5, [.ref 128, .ref 129, .int (nI (b.1 11).2.2)]),
  .inl (1, 10, .inr (.inl (b.1 11).1)),
  .inl (0, 10, .inl (b.1 11).2.1),
  .inr (5, [.ref 131, .ref 132, .int (nI (b.1 12).2.2)]),
  .inl (1, 10, .inr (.inl (b.1 12).1)),
  .inl (0, 10, .inl (b.1 12).2.1),
  .inr (5, [.ref 134, .ref 135, .int (nI (b.1 13).2.2)]),
  .inl (1, 10, .inr (.inl (b.1 13).1)),
  .inl (0, 10, .inl (b.1 13).2.1),
  .inr (5, [.ref 137, .ref 138, .int (nI (b.1 14).2.2)]),
  .inl (1, 10, .inr (.inl (b.1 14).1)),
  .inl (0, 10, .inl (b.1 14).2.1),
  .inr (5, [.ref 140, .ref 141, .int (nI (b.1 15).2.2)]),
  .inl (1, 10, .inr (.inl (b.1 15).1)),
  .inl (0, 10, .inl (b.1 15).2.1),
  .inr (5, [.ref 143, .ref 144, .int (nI (b.1 16).2.2)]),
  .inl (1, 10, .inr (.inl (b.1 16).1)),
  .inl (0, 10, .inl (b.1 16).2.1),
  .inr (5, [.ref 146, .ref 147, .int (nI (b.1 17).2.2)]),
  .inl (1, 10, .inr (.inl (b.1 17).1)),
  .inl (0, 10, .inl (b.1 17).2.1),
  .inr (5, [.ref 149, .ref 150, .int (nI (b.1 18).2.2)]),
  .inl (1, 10, .inr (.inl (b.1 18).1)),
  .inl (0, 10, .inl (b.1 18).2.1),
  .inr (5, [.ref 152, .ref 153, .int (nI (b.1 19).2.2)]),
  .inl (1, 10, .inr (.inl (b.1 19).1)),
  .inl (0, 10, .inl (b.1 19).2.1),
  .inr (5, [.ref 155, .ref 156, .int (nI (b.1 20).2.2)]),
  .inl (1, 10, .inr (.inl (b.1 20).1)),
  .inl (0, 10, .inl (b.1 20).2.1),
  .inr (5, [.ref 158, .ref 159, .int (nI (b.1 21).2.2)]),
  .inl (1, 10, .inr (.inl (b.1 21).1)),
  .inl (0, 10, .inl (b.1 21).2.1),
  .inr (5, [.ref 161, .ref 162, .int (nI (b.1 22).2.2)]),
  .inl (1, 10, .inr (.inl (b.1 22).1)),
  .inl (0, 10, .inl (b.1 22).2.1),
  .inr (5, [.ref 164, .ref 165, .int (nI (b.1 23).2.2)]),
  .inl (1, 10, .inr (.inl (b.1 23).1)),
  .inl (0, 10, .inl (b.1 23).2.1),
  .inr (5, [.ref 167, .ref 168, .int (nI (b.1 24).2.2)]),
  .inl (1, 10, .inr (.inl (b.1 24).1)),
  .inl (0, 10, .inl (b.1 24).2.1),
  .inr (6, [.ref 2, .ref 5, .ref 16, .long d.1, .int d.2.1, .int d.2.2.1, .long d.2.2.2.1, .int d.2.2.2.2.1, .int d.2.2.2.2.2]),
  .inr (7, [.ref 171, .ref 176, .int (nI k.2.2)]),
  .inl (2, 4, .inr (.inr (.inr (.inr (fun j => if j < 4 then some (172 + j) else none))))),
  .inl (0, 16, .inl (k.1 0)),
  .inl (0, 16, .inl (k.1 1)),
  .inl (0, 16, .inl (k.1 2)),
  .inl (0, 16, .inl (k.1 3)),
  .inl (2, 4, .inr (.inr (.inr (.inr (fun j => if j < 4 then some (177 + j) else none))))),
  .inl (0, 4, .inl (k.2.1 0)),
  .inl (0, 4, .inl (k.2.1 1)),
  .inl (0, 4, .inl (k.2.1 2)),
  .inl (0, 4, .inl (k.2.1 3)),
  .inr (8, [.ref 2, .ref 170, .ref 182, .ref 187, .ref 192, .ref 197, .ref 202, .ref 203, .int (nI t.2.2.2.2.2.2.1), .int t.2.2.2.2.2.2.2]),
  .inl (3, 4, .inr (.inr (.inr (.inr (fun j => if j < 4 then some (183 + j) else none))))),
  .inl (1, 36, .inr (.inl (t.1 0))),
  .inl (1, 36, .inr (.inl (t.1 1))),
  .inl (1, 36, .inr (.inl (t.1 2))),
  .inl (1, 36, .inr (.inl (t.1 3))),
  .inl (3, 4, .inr (.inr (.inr (.inr (fun j => if j < 4 then some (188 + j) else none))))),
  .inl (1, 36, .inr (.inl (t.2.1 0))),
  .inl (1, 36, .inr (.inl (t.2.1 1))),
  .inl (1, 36, .inr (.inl (t.2.1 2))),
  .inl (1, 36, .inr (.inl (t.2.1 3))),
  .inl (3, 4, .inr (.inr (.inr (.inr (fun j => if j < 4 then some (193 + j) else none))))),
  .inl (1, 36, .inr (.inl (t.2.2.1 0))),
  .inl (1, 36, .inr (.inl (t.2.2.1 1))),
  .inl (1, 36, .inr (.inl (t.2.2.1 2))),
  .inl (1, 36, .inr (.inl (t.2.2.1 3))),
  .inl (3, 4, .inr (.inr (.inr (.inr (fun j => if j < 4 then some (198 + j) else none))))),
  .inl (1, 36, .inr (.inl (t.2.2.2.1 0))),
  .inl (1, 36, .inr (.inl (t.2.2.2.1 1))),
  .inl (1, 36, .inr (.inl (t.2.2.2.1 2))),
  .inl (1, 36, .inr (.inl (t.2.2.2.1 3))),
  .inl (0, 7, .inl t.2.2.2.2.1),
  .inl (0, 7, .inl t.2.2.2.2.2.1)]
/-- the reference: states, kinds, places, way, what is known, drawn, tables, tells -/
def hm (ms mk mp : hA) (mw : Nat → Int32) (mc : hC) (md : Int32 × (Nat → Int32)) (mt : hF) (me : hE) : List ab_C := [
  .inr (9, [.int (nI ms.1), .ref 205, .ref 206, .int (nI mk.1), .ref 207, .ref 208, .int (nI mp.1), .ref 209, .ref 210, .int mc.1, .int md.1, .ref 211, .long mc.2.1, .int mc.2.2.1, .ref 212, .ref 213, .ref 214, .int (nI mc.2.2.2.2.2.2.1), .ref 215, .ref 216, .ref 217, .ref 218, .ref 219, .ref 220, .ref 221, .ref 222, .ref 223]),
  .inl (0, 36, .inl ms.2.1),
  .inl (0, 16, .inl ms.2.2),
  .inl (0, 64, .inl mk.2.1),
  .inl (0, 16, .inl mk.2.2),
  .inl (0, 6, .inl mp.2.1),
  .inl (0, 6, .inl mp.2.2),
  .inl (0, 7, .inl mw),
  .inl (1, 24, .inr (.inl mc.2.2.2.1)),
  .inl (1, 24, .inr (.inl mc.2.2.2.2.1)),
  .inl (1, 96, .inr (.inl mc.2.2.2.2.2.1)),
  .inl (1, 11, .inr (.inl mc.2.2.2.2.2.2.2.1)),
  .inl (0, 66, .inl mc.2.2.2.2.2.2.2.2),
  .inl (0, 6, .inl md.2),
  .inl (1, 144, .inr (.inl mt.1)),
  .inl (1, 144, .inr (.inl mt.2.1)),
  .inl (1, 144, .inr (.inl mt.2.2)),
  .inl (0, 12, .inl me.1),
  .inl (0, 12, .inl me.2.1),
  .inl (0, 12, .inl me.2.2)]
section HQ
variable {r : hR} {s : hS} {w c : hW} {b : hB} {d : hD} {k : hK} {t : hT} {Z : List ab_C}
set_option maxRecDepth 20000 in
theorem hq_0 : (hc r s w c b d k t ++ Z)[0]? = some (.inr (0, [.ref 2, .ref 5, .ref 16, .ref 54, .ref 92, .ref 169, .ref 170, .ref 181])) := rfl
set_option maxRecDepth 20000 in
theorem hq_1 : (hc r s w c b d k t ++ Z)[1]? = some (.inr (1, [.ref 3, .ref 4, .int (nI r.2.2)])) := rfl
set_option maxRecDepth 20000 in
theorem hq_2 : (hc r s w c b d k t ++ Z)[2]? = some (.inl (0, 6, .inl r.1)) := rfl
set_option maxRecDepth 20000 in
theorem hq_3 : (hc r s w c b d k t ++ Z)[3]? = some (.inl (0, 6, .inl r.2.1)) := rfl
set_option maxRecDepth 20000 in
theorem hq_4 : (hc r s w c b d k t ++ Z)[4]? = some (.inr (2, [.ref 6, .ref 11, .int (nI s.2.2)])) := rfl
set_option maxRecDepth 20000 in
theorem hq_15 : (hc r s w c b d k t ++ Z)[15]? = some (.inr (3, [.ref 2, .ref 5, .int 2147483647, .ref 17, .ref 24, .ref 31, .ref 39, .ref 47, .int w.2.2.2.2.2])) := rfl
set_option maxRecDepth 20000 in
theorem hq_53 : (hc r s w c b d k t ++ Z)[53]? = some (.inr (3, [.ref 2, .ref 5, .int 1, .ref 55, .ref 62, .ref 69, .ref 77, .ref 85, .int c.2.2.2.2.2])) := rfl
set_option maxRecDepth 20000 in
theorem hq_91 : (hc r s w c b d k t ++ Z)[91]? = some (.inr (4, [.ref 2, .ref 5, .ref 16, .ref 93, .ref 94, .int b.2])) := rfl
set_option maxRecDepth 20000 in
theorem hq_92 : (hc r s w c b d k t ++ Z)[92]? = some (.inl (4, 24, .inr (.inr (.inr (.inr (fun j => if j < 24 then some (97 + 3 * j) else none)))))) := rfl
set_option maxRecDepth 20000 in
theorem hq_168 : (hc r s w c b d k t ++ Z)[168]? = some (.inr (6, [.ref 2, .ref 5, .ref 16, .long d.1, .int d.2.1, .int d.2.2.1, .long d.2.2.2.1, .int d.2.2.2.2.1, .int d.2.2.2.2.2])) := rfl
set_option maxRecDepth 20000 in
theorem hq_169 : (hc r s w c b d k t ++ Z)[169]? = some (.inr (7, [.ref 171, .ref 176, .int (nI k.2.2)])) := rfl
set_option maxRecDepth 20000 in
theorem hq_180 : (hc r s w c b d k t ++ Z)[180]? = some (.inr (8, [.ref 2, .ref 170, .ref 182, .ref 187, .ref 192, .ref 197, .ref 202, .ref 203, .int (nI t.2.2.2.2.2.2.1), .int t.2.2.2.2.2.2.2])) := rfl
set_option maxRecDepth 20000 in
theorem hq_201 : (hc r s w c b d k t ++ Z)[201]? = some (.inl (0, 7, .inl t.2.2.2.2.1)) := rfl
set_option maxRecDepth 20000 in
theorem hq_202 : (hc r s w c b d k t ++ Z)[202]? = some (.inl (0, 7, .inl t.2.2.2.2.2.1)) := rfl
set_option maxRecDepth 20000 in
theorem hq_5 : (hc r s w c b d k t ++ Z)[5]? = some (.inl (2, 4, .inr (.inr (.inr (.inr (fun j => if j < 4 then some (7 + j) else none)))))) := rfl
set_option maxRecDepth 20000 in
theorem hq_10 : (hc r s w c b d k t ++ Z)[10]? = some (.inl (2, 4, .inr (.inr (.inr (.inr (fun j => if j < 4 then some (12 + j) else none)))))) := rfl
set_option maxRecDepth 20000 in
theorem hq_16 : (hc r s w c b d k t ++ Z)[16]? = some (.inl (3, 6, .inr (.inr (.inr (.inr (fun j => if j < 6 then some (18 + j) else none)))))) := rfl
set_option maxRecDepth 20000 in
theorem hq_23 : (hc r s w c b d k t ++ Z)[23]? = some (.inl (3, 6, .inr (.inr (.inr (.inr (fun j => if j < 6 then some (25 + j) else none)))))) := rfl
set_option maxRecDepth 20000 in
theorem hq_30 : (hc r s w c b d k t ++ Z)[30]? = some (.inl (3, 7, .inr (.inr (.inr (.inr (fun j => if j < 7 then some (32 + j) else none)))))) := rfl
set_option maxRecDepth 20000 in
theorem hq_38 : (hc r s w c b d k t ++ Z)[38]? = some (.inl (3, 7, .inr (.inr (.inr (.inr (fun j => if j < 7 then some (40 + j) else none)))))) := rfl
set_option maxRecDepth 20000 in
theorem hq_46 : (hc r s w c b d k t ++ Z)[46]? = some (.inl (3, 6, .inr (.inr (.inr (.inr (fun j => if j < 6 then some (48 + j) else none)))))) := rfl
set_option maxRecDepth 20000 in
theorem hq_54 : (hc r s w c b d k t ++ Z)[54]? = some (.inl (3, 6, .inr (.inr (.inr (.inr (fun j => if j < 6 then some (56 + j) else none)))))) := rfl
set_option maxRecDepth 20000 in
theorem hq_61 : (hc r s w c b d k t ++ Z)[61]? = some (.inl (3, 6, .inr (.inr (.inr (.inr (fun j => if j < 6 then some (63 + j) else none)))))) := rfl
set_option maxRecDepth 20000 in
theorem hq_68 : (hc r s w c b d k t ++ Z)[68]? = some (.inl (3, 7, .inr (.inr (.inr (.inr (fun j => if j < 7 then some (70 + j) else none)))))) := rfl
set_option maxRecDepth 20000 in
theorem hq_76 : (hc r s w c b d k t ++ Z)[76]? = some (.inl (3, 7, .inr (.inr (.inr (.inr (fun j => if j < 7 then some (78 + j) else none)))))) := rfl
set_option maxRecDepth 20000 in
theorem hq_84 : (hc r s w c b d k t ++ Z)[84]? = some (.inl (3, 6, .inr (.inr (.inr (.inr (fun j => if j < 6 then some (86 + j) else none)))))) := rfl
set_option maxRecDepth 20000 in
theorem hq_170 : (hc r s w c b d k t ++ Z)[170]? = some (.inl (2, 4, .inr (.inr (.inr (.inr (fun j => if j < 4 then some (172 + j) else none)))))) := rfl
set_option maxRecDepth 20000 in
theorem hq_175 : (hc r s w c b d k t ++ Z)[175]? = some (.inl (2, 4, .inr (.inr (.inr (.inr (fun j => if j < 4 then some (177 + j) else none)))))) := rfl
set_option maxRecDepth 20000 in
theorem hq_181 : (hc r s w c b d k t ++ Z)[181]? = some (.inl (3, 4, .inr (.inr (.inr (.inr (fun j => if j < 4 then some (183 + j) else none)))))) := rfl
set_option maxRecDepth 20000 in
theorem hq_186 : (hc r s w c b d k t ++ Z)[186]? = some (.inl (3, 4, .inr (.inr (.inr (.inr (fun j => if j < 4 then some (188 + j) else none)))))) := rfl
set_option maxRecDepth 20000 in
theorem hq_191 : (hc r s w c b d k t ++ Z)[191]? = some (.inl (3, 4, .inr (.inr (.inr (.inr (fun j => if j < 4 then some (193 + j) else none)))))) := rfl
set_option maxRecDepth 20000 in
theorem hq_196 : (hc r s w c b d k t ++ Z)[196]? = some (.inl (3, 4, .inr (.inr (.inr (.inr (fun j => if j < 4 then some (198 + j) else none)))))) := rfl
set_option maxRecDepth 20000 in
theorem hr_wt {i : Nat} (hi : i < 4) : (hc r s w c b d k t ++ Z)[6 + i]? = some (.inl (0, 9, .inl (s.1 i))) := by
  rcases (show i = 0 ∨ i = 1 ∨ i = 2 ∨ i = 3 by omega) with rfl | rfl | rfl | rfl <;> rfl
set_option maxRecDepth 20000 in
theorem hr_mv {i : Nat} (hi : i < 4) : (hc r s w c b d k t ++ Z)[11 + i]? = some (.inl (0, 4, .inl (s.2.1 i))) := by
  rcases (show i = 0 ∨ i = 1 ∨ i = 2 ∨ i = 3 by omega) with rfl | rfl | rfl | rfl <;> rfl
set_option maxRecDepth 20000 in
theorem hr_sh {i : Nat} (hi : i < 6) : (hc r s w c b d k t ++ Z)[17 + i]? = some (.inl (1, 4, .inr (.inl (w.1 i)))) := by
  rcases (show i = 0 ∨ i = 1 ∨ i = 2 ∨ i = 3 ∨ i = 4 ∨ i = 5 by omega) with rfl | rfl | rfl | rfl | rfl | rfl <;> rfl
set_option maxRecDepth 20000 in
theorem hr_fr {i : Nat} (hi : i < 6) : (hc r s w c b d k t ++ Z)[24 + i]? = some (.inl (1, 4, .inr (.inl (w.2.1 i)))) := by
  rcases (show i = 0 ∨ i = 1 ∨ i = 2 ∨ i = 3 ∨ i = 4 ∨ i = 5 by omega) with rfl | rfl | rfl | rfl | rfl | rfl <;> rfl
set_option maxRecDepth 20000 in
theorem hr_le {i : Nat} (hi : i < 7) : (hc r s w c b d k t ++ Z)[31 + i]? = some (.inl (1, 4, .inr (.inl (w.2.2.1 i)))) := by
  rcases (show i = 0 ∨ i = 1 ∨ i = 2 ∨ i = 3 ∨ i = 4 ∨ i = 5 ∨ i = 6 by omega) with rfl | rfl | rfl | rfl | rfl | rfl | rfl <;> rfl
set_option maxRecDepth 20000 in
theorem hr_up {i : Nat} (hi : i < 7) : (hc r s w c b d k t ++ Z)[39 + i]? = some (.inl (1, 4, .inr (.inl (w.2.2.2.1 i)))) := by
  rcases (show i = 0 ∨ i = 1 ∨ i = 2 ∨ i = 3 ∨ i = 4 ∨ i = 5 ∨ i = 6 by omega) with rfl | rfl | rfl | rfl | rfl | rfl | rfl <;> rfl
set_option maxRecDepth 20000 in
theorem hr_en {i : Nat} (hi : i < 6) : (hc r s w c b d k t ++ Z)[47 + i]? = some (.inl (1, 4, .inr (.inl (w.2.2.2.2.1 i)))) := by
  rcases (show i = 0 ∨ i = 1 ∨ i = 2 ∨ i = 3 ∨ i = 4 ∨ i = 5 by omega) with rfl | rfl | rfl | rfl | rfl | rfl <;> rfl
set_option maxRecDepth 20000 in
theorem hr_csh {i : Nat} (hi : i < 6) : (hc r s w c b d k t ++ Z)[55 + i]? = some (.inl (1, 4, .inr (.inl (c.1 i)))) := by
  rcases (show i = 0 ∨ i = 1 ∨ i = 2 ∨ i = 3 ∨ i = 4 ∨ i = 5 by omega) with rfl | rfl | rfl | rfl | rfl | rfl <;> rfl
set_option maxRecDepth 20000 in
theorem hr_cfr {i : Nat} (hi : i < 6) : (hc r s w c b d k t ++ Z)[62 + i]? = some (.inl (1, 4, .inr (.inl (c.2.1 i)))) := by
  rcases (show i = 0 ∨ i = 1 ∨ i = 2 ∨ i = 3 ∨ i = 4 ∨ i = 5 by omega) with rfl | rfl | rfl | rfl | rfl | rfl <;> rfl
set_option maxRecDepth 20000 in
theorem hr_cle {i : Nat} (hi : i < 7) : (hc r s w c b d k t ++ Z)[69 + i]? = some (.inl (1, 4, .inr (.inl (c.2.2.1 i)))) := by
  rcases (show i = 0 ∨ i = 1 ∨ i = 2 ∨ i = 3 ∨ i = 4 ∨ i = 5 ∨ i = 6 by omega) with rfl | rfl | rfl | rfl | rfl | rfl | rfl <;> rfl
set_option maxRecDepth 20000 in
theorem hr_cup {i : Nat} (hi : i < 7) : (hc r s w c b d k t ++ Z)[77 + i]? = some (.inl (1, 4, .inr (.inl (c.2.2.2.1 i)))) := by
  rcases (show i = 0 ∨ i = 1 ∨ i = 2 ∨ i = 3 ∨ i = 4 ∨ i = 5 ∨ i = 6 by omega) with rfl | rfl | rfl | rfl | rfl | rfl | rfl <;> rfl
set_option maxRecDepth 20000 in
theorem hr_cen {i : Nat} (hi : i < 6) : (hc r s w c b d k t ++ Z)[85 + i]? = some (.inl (1, 4, .inr (.inl (c.2.2.2.2.1 i)))) := by
  rcases (show i = 0 ∨ i = 1 ∨ i = 2 ∨ i = 3 ∨ i = 4 ∨ i = 5 by omega) with rfl | rfl | rfl | rfl | rfl | rfl <;> rfl
set_option maxRecDepth 20000 in
theorem hr_ru {i : Nat} (hi : i < 4) : (hc r s w c b d k t ++ Z)[171 + i]? = some (.inl (0, 16, .inl (k.1 i))) := by
  rcases (show i = 0 ∨ i = 1 ∨ i = 2 ∨ i = 3 by omega) with rfl | rfl | rfl | rfl <;> rfl
set_option maxRecDepth 20000 in
theorem hr_lf {i : Nat} (hi : i < 4) : (hc r s w c b d k t ++ Z)[176 + i]? = some (.inl (0, 4, .inl (k.2.1 i))) := by
  rcases (show i = 0 ∨ i = 1 ∨ i = 2 ∨ i = 3 by omega) with rfl | rfl | rfl | rfl <;> rfl
set_option maxRecDepth 20000 in
theorem hr_su {i : Nat} (hi : i < 4) : (hc r s w c b d k t ++ Z)[182 + i]? = some (.inl (1, 36, .inr (.inl (t.1 i)))) := by
  rcases (show i = 0 ∨ i = 1 ∨ i = 2 ∨ i = 3 by omega) with rfl | rfl | rfl | rfl <;> rfl
set_option maxRecDepth 20000 in
theorem hr_ct {i : Nat} (hi : i < 4) : (hc r s w c b d k t ++ Z)[187 + i]? = some (.inl (1, 36, .inr (.inl (t.2.1 i)))) := by
  rcases (show i = 0 ∨ i = 1 ∨ i = 2 ∨ i = 3 by omega) with rfl | rfl | rfl | rfl <;> rfl
set_option maxRecDepth 20000 in
theorem hr_be {i : Nat} (hi : i < 4) : (hc r s w c b d k t ++ Z)[192 + i]? = some (.inl (1, 36, .inr (.inl (t.2.2.1 i)))) := by
  rcases (show i = 0 ∨ i = 1 ∨ i = 2 ∨ i = 3 by omega) with rfl | rfl | rfl | rfl <;> rfl
set_option maxRecDepth 20000 in
theorem hr_ha {i : Nat} (hi : i < 4) : (hc r s w c b d k t ++ Z)[197 + i]? = some (.inl (1, 36, .inr (.inl (t.2.2.2.1 i)))) := by
  rcases (show i = 0 ∨ i = 1 ∨ i = 2 ∨ i = 3 by omega) with rfl | rfl | rfl | rfl <;> rfl
set_option maxRecDepth 20000 in
theorem hr_lo {i : Nat} (hi : i < 25) : (hc r s w c b d k t ++ Z)[93 + 3 * i]? = some (.inr (5, [.ref (94 + 3 * i + 1), .ref (95 + 3 * i + 1), .int (nI (b.1 i).2.2)])) := by
  rcases (show i = 0 ∨ i = 1 ∨ i = 2 ∨ i = 3 ∨ i = 4 ∨ i = 5 ∨ i = 6 ∨ i = 7 ∨ i = 8 ∨ i = 9 ∨ i = 10 ∨ i = 11 ∨ i = 12 ∨ i = 13 ∨ i = 14 ∨ i = 15 ∨ i = 16 ∨ i = 17 ∨ i = 18 ∨ i = 19 ∨ i = 20 ∨ i = 21 ∨ i = 22 ∨ i = 23 ∨ i = 24 by omega) with rfl | rfl | rfl | rfl | rfl | rfl | rfl | rfl | rfl | rfl | rfl | rfl | rfl | rfl | rfl | rfl | rfl | rfl | rfl | rfl | rfl | rfl | rfl | rfl | rfl <;> rfl
set_option maxRecDepth 20000 in
theorem hr_lw {i : Nat} (hi : i < 25) : (hc r s w c b d k t ++ Z)[94 + 3 * i]? = some (.inl (1, 10, .inr (.inl (b.1 i).1))) := by
  rcases (show i = 0 ∨ i = 1 ∨ i = 2 ∨ i = 3 ∨ i = 4 ∨ i = 5 ∨ i = 6 ∨ i = 7 ∨ i = 8 ∨ i = 9 ∨ i = 10 ∨ i = 11 ∨ i = 12 ∨ i = 13 ∨ i = 14 ∨ i = 15 ∨ i = 16 ∨ i = 17 ∨ i = 18 ∨ i = 19 ∨ i = 20 ∨ i = 21 ∨ i = 22 ∨ i = 23 ∨ i = 24 by omega) with rfl | rfl | rfl | rfl | rfl | rfl | rfl | rfl | rfl | rfl | rfl | rfl | rfl | rfl | rfl | rfl | rfl | rfl | rfl | rfl | rfl | rfl | rfl | rfl | rfl <;> rfl
set_option maxRecDepth 20000 in
theorem hr_lt {i : Nat} (hi : i < 25) : (hc r s w c b d k t ++ Z)[95 + 3 * i]? = some (.inl (0, 10, .inl (b.1 i).2.1)) := by
  rcases (show i = 0 ∨ i = 1 ∨ i = 2 ∨ i = 3 ∨ i = 4 ∨ i = 5 ∨ i = 6 ∨ i = 7 ∨ i = 8 ∨ i = 9 ∨ i = 10 ∨ i = 11 ∨ i = 12 ∨ i = 13 ∨ i = 14 ∨ i = 15 ∨ i = 16 ∨ i = 17 ∨ i = 18 ∨ i = 19 ∨ i = 20 ∨ i = 21 ∨ i = 22 ∨ i = 23 ∨ i = 24 by omega) with rfl | rfl | rfl | rfl | rfl | rfl | rfl | rfl | rfl | rfl | rfl | rfl | rfl | rfl | rfl | rfl | rfl | rfl | rfl | rfl | rfl | rfl | rfl | rfl | rfl <;> rfl
set_option maxRecDepth 20000 in
theorem hs_rl {v : Nat} : (hc r s w c b d k t ++ Z).set 1 (.inr (1, [.ref 3, .ref 4, .int (nI v)])) = hc (r.1, r.2.1, v) s w c b d k t ++ Z := rfl
set_option maxRecDepth 20000 in
theorem hs_rs {v : Nat → Int32} : (hc r s w c b d k t ++ Z).set 2 (.inl (0, 6, .inl v)) = hc (v, r.2.1, r.2.2) s w c b d k t ++ Z := rfl
set_option maxRecDepth 20000 in
theorem hs_rh {v : Nat → Int32} : (hc r s w c b d k t ++ Z).set 3 (.inl (0, 6, .inl v)) = hc (r.1, v, r.2.2) s w c b d k t ++ Z := rfl
set_option maxRecDepth 20000 in
theorem hs_sq {v : Nat} : (hc r s w c b d k t ++ Z).set 4 (.inr (2, [.ref 6, .ref 11, .int (nI v)])) = hc r (s.1, s.2.1, v) w c b d k t ++ Z := rfl
set_option maxRecDepth 20000 in
theorem hs_wk {v : Int32} : (hc r s w c b d k t ++ Z).set 15 (.inr (3, [.ref 2, .ref 5, .int 2147483647, .ref 17, .ref 24, .ref 31, .ref 39, .ref 47, .int v])) = hc r s (w.1, w.2.1, w.2.2.1, w.2.2.2.1, w.2.2.2.2.1, v) c b d k t ++ Z := rfl
set_option maxRecDepth 20000 in
theorem hs_ck {v : Int32} : (hc r s w c b d k t ++ Z).set 53 (.inr (3, [.ref 2, .ref 5, .int 1, .ref 55, .ref 62, .ref 69, .ref 77, .ref 85, .int v])) = hc r s w (c.1, c.2.1, c.2.2.1, c.2.2.2.1, c.2.2.2.2.1, v) b d k t ++ Z := rfl
set_option maxRecDepth 20000 in
theorem hs_bk {v : Int32} : (hc r s w c b d k t ++ Z).set 91 (.inr (4, [.ref 2, .ref 5, .ref 16, .ref 93, .ref 94, .int v])) = hc r s w c (b.1, v) d k t ++ Z := rfl
set_option maxRecDepth 20000 in
theorem hs_d {x1 x4 : Int64} {x2 x3 x5 x6 : Int32} : (hc r s w c b d k t ++ Z).set 168 (.inr (6, [.ref 2, .ref 5, .ref 16, .long x1, .int x2, .int x3, .long x4, .int x5, .int x6])) = hc r s w c b (x1, x2, x3, x4, x5, x6) k t ++ Z := rfl
set_option maxRecDepth 20000 in
theorem hs_kc {v : Nat} : (hc r s w c b d k t ++ Z).set 169 (.inr (7, [.ref 171, .ref 176, .int (nI v)])) = hc r s w c b d (k.1, k.2.1, v) t ++ Z := rfl
set_option maxRecDepth 20000 in
theorem hs_t {v : Nat} {x : Int32} : (hc r s w c b d k t ++ Z).set 180 (.inr (8, [.ref 2, .ref 170, .ref 182, .ref 187, .ref 192, .ref 197, .ref 202, .ref 203, .int (nI v), .int x])) = hc r s w c b d k (t.1, t.2.1, t.2.2.1, t.2.2.2.1, t.2.2.2.2.1, t.2.2.2.2.2.1, v, x) ++ Z := rfl
set_option maxRecDepth 20000 in
theorem hs_twk {v : Nat → Int32} : (hc r s w c b d k t ++ Z).set 201 (.inl (0, 7, .inl v)) = hc r s w c b d k (t.1, t.2.1, t.2.2.1, t.2.2.2.1, v, t.2.2.2.2.2.1, t.2.2.2.2.2.2) ++ Z := rfl
set_option maxRecDepth 20000 in
theorem hs_twp {v : Nat → Int32} : (hc r s w c b d k t ++ Z).set 202 (.inl (0, 7, .inl v)) = hc r s w c b d k (t.1, t.2.1, t.2.2.1, t.2.2.2.1, t.2.2.2.2.1, v, t.2.2.2.2.2.2) ++ Z := rfl
set_option maxRecDepth 20000 in
theorem hw_wt {i : Nat} {f : Nat → Int32} (hi : i < 4) : (hc r s w c b d k t ++ Z).set (6 + i) (.inl (0, 9, .inl f)) = hc r (va_up s.1 i f, s.2.1, s.2.2) w c b d k t ++ Z := by
  rcases (show i = 0 ∨ i = 1 ∨ i = 2 ∨ i = 3 by omega) with rfl | rfl | rfl | rfl <;> rfl
set_option maxRecDepth 20000 in
theorem hw_mv {i : Nat} {f : Nat → Int32} (hi : i < 4) : (hc r s w c b d k t ++ Z).set (11 + i) (.inl (0, 4, .inl f)) = hc r (s.1, va_up s.2.1 i f, s.2.2) w c b d k t ++ Z := by
  rcases (show i = 0 ∨ i = 1 ∨ i = 2 ∨ i = 3 by omega) with rfl | rfl | rfl | rfl <;> rfl
set_option maxRecDepth 20000 in
theorem hw_sh {i : Nat} {f : Nat → Int64} (hi : i < 6) : (hc r s w c b d k t ++ Z).set (17 + i) (.inl (1, 4, .inr (.inl f))) = hc r s (va_up w.1 i f, w.2.1, w.2.2.1, w.2.2.2.1, w.2.2.2.2.1, w.2.2.2.2.2) c b d k t ++ Z := by
  rcases (show i = 0 ∨ i = 1 ∨ i = 2 ∨ i = 3 ∨ i = 4 ∨ i = 5 by omega) with rfl | rfl | rfl | rfl | rfl | rfl <;> rfl
set_option maxRecDepth 20000 in
theorem hw_fr {i : Nat} {f : Nat → Int64} (hi : i < 6) : (hc r s w c b d k t ++ Z).set (24 + i) (.inl (1, 4, .inr (.inl f))) = hc r s (w.1, va_up w.2.1 i f, w.2.2.1, w.2.2.2.1, w.2.2.2.2.1, w.2.2.2.2.2) c b d k t ++ Z := by
  rcases (show i = 0 ∨ i = 1 ∨ i = 2 ∨ i = 3 ∨ i = 4 ∨ i = 5 by omega) with rfl | rfl | rfl | rfl | rfl | rfl <;> rfl
set_option maxRecDepth 20000 in
theorem hw_le {i : Nat} {f : Nat → Int64} (hi : i < 7) : (hc r s w c b d k t ++ Z).set (31 + i) (.inl (1, 4, .inr (.inl f))) = hc r s (w.1, w.2.1, va_up w.2.2.1 i f, w.2.2.2.1, w.2.2.2.2.1, w.2.2.2.2.2) c b d k t ++ Z := by
  rcases (show i = 0 ∨ i = 1 ∨ i = 2 ∨ i = 3 ∨ i = 4 ∨ i = 5 ∨ i = 6 by omega) with rfl | rfl | rfl | rfl | rfl | rfl | rfl <;> rfl
set_option maxRecDepth 20000 in
theorem hw_up {i : Nat} {f : Nat → Int64} (hi : i < 7) : (hc r s w c b d k t ++ Z).set (39 + i) (.inl (1, 4, .inr (.inl f))) = hc r s (w.1, w.2.1, w.2.2.1, va_up w.2.2.2.1 i f, w.2.2.2.2.1, w.2.2.2.2.2) c b d k t ++ Z := by
  rcases (show i = 0 ∨ i = 1 ∨ i = 2 ∨ i = 3 ∨ i = 4 ∨ i = 5 ∨ i = 6 by omega) with rfl | rfl | rfl | rfl | rfl | rfl | rfl <;> rfl
set_option maxRecDepth 20000 in
theorem hw_en {i : Nat} {f : Nat → Int64} (hi : i < 6) : (hc r s w c b d k t ++ Z).set (47 + i) (.inl (1, 4, .inr (.inl f))) = hc r s (w.1, w.2.1, w.2.2.1, w.2.2.2.1, va_up w.2.2.2.2.1 i f, w.2.2.2.2.2) c b d k t ++ Z := by
  rcases (show i = 0 ∨ i = 1 ∨ i = 2 ∨ i = 3 ∨ i = 4 ∨ i = 5 by omega) with rfl | rfl | rfl | rfl | rfl | rfl <;> rfl
set_option maxRecDepth 20000 in
theorem hw_csh {i : Nat} {f : Nat → Int64} (hi : i < 6) : (hc r s w c b d k t ++ Z).set (55 + i) (.inl (1, 4, .inr (.inl f))) = hc r s w (va_up c.1 i f, c.2.1, c.2.2.1, c.2.2.2.1, c.2.2.2.2.1, c.2.2.2.2.2) b d k t ++ Z := by
  rcases (show i = 0 ∨ i = 1 ∨ i = 2 ∨ i = 3 ∨ i = 4 ∨ i = 5 by omega) with rfl | rfl | rfl | rfl | rfl | rfl <;> rfl
set_option maxRecDepth 20000 in
theorem hw_cfr {i : Nat} {f : Nat → Int64} (hi : i < 6) : (hc r s w c b d k t ++ Z).set (62 + i) (.inl (1, 4, .inr (.inl f))) = hc r s w (c.1, va_up c.2.1 i f, c.2.2.1, c.2.2.2.1, c.2.2.2.2.1, c.2.2.2.2.2) b d k t ++ Z := by
  rcases (show i = 0 ∨ i = 1 ∨ i = 2 ∨ i = 3 ∨ i = 4 ∨ i = 5 by omega) with rfl | rfl | rfl | rfl | rfl | rfl <;> rfl
set_option maxRecDepth 20000 in
theorem hw_cle {i : Nat} {f : Nat → Int64} (hi : i < 7) : (hc r s w c b d k t ++ Z).set (69 + i) (.inl (1, 4, .inr (.inl f))) = hc r s w (c.1, c.2.1, va_up c.2.2.1 i f, c.2.2.2.1, c.2.2.2.2.1, c.2.2.2.2.2) b d k t ++ Z := by
  rcases (show i = 0 ∨ i = 1 ∨ i = 2 ∨ i = 3 ∨ i = 4 ∨ i = 5 ∨ i = 6 by omega) with rfl | rfl | rfl | rfl | rfl | rfl | rfl <;> rfl
set_option maxRecDepth 20000 in
theorem hw_cup {i : Nat} {f : Nat → Int64} (hi : i < 7) : (hc r s w c b d k t ++ Z).set (77 + i) (.inl (1, 4, .inr (.inl f))) = hc r s w (c.1, c.2.1, c.2.2.1, va_up c.2.2.2.1 i f, c.2.2.2.2.1, c.2.2.2.2.2) b d k t ++ Z := by
  rcases (show i = 0 ∨ i = 1 ∨ i = 2 ∨ i = 3 ∨ i = 4 ∨ i = 5 ∨ i = 6 by omega) with rfl | rfl | rfl | rfl | rfl | rfl | rfl <;> rfl
set_option maxRecDepth 20000 in
theorem hw_cen {i : Nat} {f : Nat → Int64} (hi : i < 6) : (hc r s w c b d k t ++ Z).set (85 + i) (.inl (1, 4, .inr (.inl f))) = hc r s w (c.1, c.2.1, c.2.2.1, c.2.2.2.1, va_up c.2.2.2.2.1 i f, c.2.2.2.2.2) b d k t ++ Z := by
  rcases (show i = 0 ∨ i = 1 ∨ i = 2 ∨ i = 3 ∨ i = 4 ∨ i = 5 by omega) with rfl | rfl | rfl | rfl | rfl | rfl <;> rfl
set_option maxRecDepth 20000 in
theorem hw_ru {i : Nat} {f : Nat → Int32} (hi : i < 4) : (hc r s w c b d k t ++ Z).set (171 + i) (.inl (0, 16, .inl f)) = hc r s w c b d (va_up k.1 i f, k.2.1, k.2.2) t ++ Z := by
  rcases (show i = 0 ∨ i = 1 ∨ i = 2 ∨ i = 3 by omega) with rfl | rfl | rfl | rfl <;> rfl
set_option maxRecDepth 20000 in
theorem hw_lf {i : Nat} {f : Nat → Int32} (hi : i < 4) : (hc r s w c b d k t ++ Z).set (176 + i) (.inl (0, 4, .inl f)) = hc r s w c b d (k.1, va_up k.2.1 i f, k.2.2) t ++ Z := by
  rcases (show i = 0 ∨ i = 1 ∨ i = 2 ∨ i = 3 by omega) with rfl | rfl | rfl | rfl <;> rfl
set_option maxRecDepth 20000 in
theorem hw_su {i : Nat} {f : Nat → Int64} (hi : i < 4) : (hc r s w c b d k t ++ Z).set (182 + i) (.inl (1, 36, .inr (.inl f))) = hc r s w c b d k (va_up t.1 i f, t.2.1, t.2.2.1, t.2.2.2.1, t.2.2.2.2.1, t.2.2.2.2.2.1, t.2.2.2.2.2.2.1, t.2.2.2.2.2.2.2) ++ Z := by
  rcases (show i = 0 ∨ i = 1 ∨ i = 2 ∨ i = 3 by omega) with rfl | rfl | rfl | rfl <;> rfl
set_option maxRecDepth 20000 in
theorem hw_ct {i : Nat} {f : Nat → Int64} (hi : i < 4) : (hc r s w c b d k t ++ Z).set (187 + i) (.inl (1, 36, .inr (.inl f))) = hc r s w c b d k (t.1, va_up t.2.1 i f, t.2.2.1, t.2.2.2.1, t.2.2.2.2.1, t.2.2.2.2.2.1, t.2.2.2.2.2.2.1, t.2.2.2.2.2.2.2) ++ Z := by
  rcases (show i = 0 ∨ i = 1 ∨ i = 2 ∨ i = 3 by omega) with rfl | rfl | rfl | rfl <;> rfl
set_option maxRecDepth 20000 in
theorem hw_be {i : Nat} {f : Nat → Int64} (hi : i < 4) : (hc r s w c b d k t ++ Z).set (192 + i) (.inl (1, 36, .inr (.inl f))) = hc r s w c b d k (t.1, t.2.1, va_up t.2.2.1 i f, t.2.2.2.1, t.2.2.2.2.1, t.2.2.2.2.2.1, t.2.2.2.2.2.2.1, t.2.2.2.2.2.2.2) ++ Z := by
  rcases (show i = 0 ∨ i = 1 ∨ i = 2 ∨ i = 3 by omega) with rfl | rfl | rfl | rfl <;> rfl
set_option maxRecDepth 20000 in
theorem hw_ha {i : Nat} {f : Nat → Int64} (hi : i < 4) : (hc r s w c b d k t ++ Z).set (197 + i) (.inl (1, 36, .inr (.inl f))) = hc r s w c b d k (t.1, t.2.1, t.2.2.1, va_up t.2.2.2.1 i f, t.2.2.2.2.1, t.2.2.2.2.2.1, t.2.2.2.2.2.2.1, t.2.2.2.2.2.2.2) ++ Z := by
  rcases (show i = 0 ∨ i = 1 ∨ i = 2 ∨ i = 3 by omega) with rfl | rfl | rfl | rfl <;> rfl
set_option maxRecDepth 20000 in
theorem hw_lo {i : Nat} {v : Nat} (hi : i < 25) : (hc r s w c b d k t ++ Z).set (93 + 3 * i) (.inr (5, [.ref (94 + 3 * i + 1), .ref (95 + 3 * i + 1), .int (nI v)])) = hc r s w c (va_up b.1 i ((b.1 i).1, (b.1 i).2.1, v), b.2) d k t ++ Z := by
  rcases (show i = 0 ∨ i = 1 ∨ i = 2 ∨ i = 3 ∨ i = 4 ∨ i = 5 ∨ i = 6 ∨ i = 7 ∨ i = 8 ∨ i = 9 ∨ i = 10 ∨ i = 11 ∨ i = 12 ∨ i = 13 ∨ i = 14 ∨ i = 15 ∨ i = 16 ∨ i = 17 ∨ i = 18 ∨ i = 19 ∨ i = 20 ∨ i = 21 ∨ i = 22 ∨ i = 23 ∨ i = 24 by omega) with rfl | rfl | rfl | rfl | rfl | rfl | rfl | rfl | rfl | rfl | rfl | rfl | rfl | rfl | rfl | rfl | rfl | rfl | rfl | rfl | rfl | rfl | rfl | rfl | rfl <;> rfl
set_option maxRecDepth 20000 in
theorem hw_lw {i : Nat} {v : Nat → Int64} (hi : i < 25) : (hc r s w c b d k t ++ Z).set (94 + 3 * i) (.inl (1, 10, .inr (.inl v))) = hc r s w c (va_up b.1 i (v, (b.1 i).2.1, (b.1 i).2.2), b.2) d k t ++ Z := by
  rcases (show i = 0 ∨ i = 1 ∨ i = 2 ∨ i = 3 ∨ i = 4 ∨ i = 5 ∨ i = 6 ∨ i = 7 ∨ i = 8 ∨ i = 9 ∨ i = 10 ∨ i = 11 ∨ i = 12 ∨ i = 13 ∨ i = 14 ∨ i = 15 ∨ i = 16 ∨ i = 17 ∨ i = 18 ∨ i = 19 ∨ i = 20 ∨ i = 21 ∨ i = 22 ∨ i = 23 ∨ i = 24 by omega) with rfl | rfl | rfl | rfl | rfl | rfl | rfl | rfl | rfl | rfl | rfl | rfl | rfl | rfl | rfl | rfl | rfl | rfl | rfl | rfl | rfl | rfl | rfl | rfl | rfl <;> rfl
set_option maxRecDepth 20000 in
theorem hw_lt {i : Nat} {v : Nat → Int32} (hi : i < 25) : (hc r s w c b d k t ++ Z).set (95 + 3 * i) (.inl (0, 10, .inl v)) = hc r s w c (va_up b.1 i ((b.1 i).1, v, (b.1 i).2.2), b.2) d k t ++ Z := by
  rcases (show i = 0 ∨ i = 1 ∨ i = 2 ∨ i = 3 ∨ i = 4 ∨ i = 5 ∨ i = 6 ∨ i = 7 ∨ i = 8 ∨ i = 9 ∨ i = 10 ∨ i = 11 ∨ i = 12 ∨ i = 13 ∨ i = 14 ∨ i = 15 ∨ i = 16 ∨ i = 17 ∨ i = 18 ∨ i = 19 ∨ i = 20 ∨ i = 21 ∨ i = 22 ∨ i = 23 ∨ i = 24 by omega) with rfl | rfl | rfl | rfl | rfl | rfl | rfl | rfl | rfl | rfl | rfl | rfl | rfl | rfl | rfl | rfl | rfl | rfl | rfl | rfl | rfl | rfl | rfl | rfl | rfl <;> rfl
set_option maxRecDepth 20000 in
theorem hg_wt {j : Nat} (hj : j < 4) : (if j < 4 then some (7 + j) else none : Option Nat) = some (6 + j + 1) := by rw [if_pos hj]; congr 1; omega
set_option maxRecDepth 20000 in
theorem hg_mv {j : Nat} (hj : j < 4) : (if j < 4 then some (12 + j) else none : Option Nat) = some (11 + j + 1) := by rw [if_pos hj]; congr 1; omega
set_option maxRecDepth 20000 in
theorem hg_sh {j : Nat} (hj : j < 6) : (if j < 6 then some (18 + j) else none : Option Nat) = some (17 + j + 1) := by rw [if_pos hj]; congr 1; omega
set_option maxRecDepth 20000 in
theorem hg_fr {j : Nat} (hj : j < 6) : (if j < 6 then some (25 + j) else none : Option Nat) = some (24 + j + 1) := by rw [if_pos hj]; congr 1; omega
set_option maxRecDepth 20000 in
theorem hg_le {j : Nat} (hj : j < 7) : (if j < 7 then some (32 + j) else none : Option Nat) = some (31 + j + 1) := by rw [if_pos hj]; congr 1; omega
set_option maxRecDepth 20000 in
theorem hg_up {j : Nat} (hj : j < 7) : (if j < 7 then some (40 + j) else none : Option Nat) = some (39 + j + 1) := by rw [if_pos hj]; congr 1; omega
set_option maxRecDepth 20000 in
theorem hg_en {j : Nat} (hj : j < 6) : (if j < 6 then some (48 + j) else none : Option Nat) = some (47 + j + 1) := by rw [if_pos hj]; congr 1; omega
set_option maxRecDepth 20000 in
theorem hg_csh {j : Nat} (hj : j < 6) : (if j < 6 then some (56 + j) else none : Option Nat) = some (55 + j + 1) := by rw [if_pos hj]; congr 1; omega
set_option maxRecDepth 20000 in
theorem hg_cfr {j : Nat} (hj : j < 6) : (if j < 6 then some (63 + j) else none : Option Nat) = some (62 + j + 1) := by rw [if_pos hj]; congr 1; omega
set_option maxRecDepth 20000 in
theorem hg_cle {j : Nat} (hj : j < 7) : (if j < 7 then some (70 + j) else none : Option Nat) = some (69 + j + 1) := by rw [if_pos hj]; congr 1; omega
set_option maxRecDepth 20000 in
theorem hg_cup {j : Nat} (hj : j < 7) : (if j < 7 then some (78 + j) else none : Option Nat) = some (77 + j + 1) := by rw [if_pos hj]; congr 1; omega
set_option maxRecDepth 20000 in
theorem hg_cen {j : Nat} (hj : j < 6) : (if j < 6 then some (86 + j) else none : Option Nat) = some (85 + j + 1) := by rw [if_pos hj]; congr 1; omega
set_option maxRecDepth 20000 in
theorem hg_ru {j : Nat} (hj : j < 4) : (if j < 4 then some (172 + j) else none : Option Nat) = some (171 + j + 1) := by rw [if_pos hj]; congr 1; omega
set_option maxRecDepth 20000 in
theorem hg_lf {j : Nat} (hj : j < 4) : (if j < 4 then some (177 + j) else none : Option Nat) = some (176 + j + 1) := by rw [if_pos hj]; congr 1; omega
set_option maxRecDepth 20000 in
theorem hg_su {j : Nat} (hj : j < 4) : (if j < 4 then some (183 + j) else none : Option Nat) = some (182 + j + 1) := by rw [if_pos hj]; congr 1; omega
set_option maxRecDepth 20000 in
theorem hg_ct {j : Nat} (hj : j < 4) : (if j < 4 then some (188 + j) else none : Option Nat) = some (187 + j + 1) := by rw [if_pos hj]; congr 1; omega
set_option maxRecDepth 20000 in
theorem hg_be {j : Nat} (hj : j < 4) : (if j < 4 then some (193 + j) else none : Option Nat) = some (192 + j + 1) := by rw [if_pos hj]; congr 1; omega
set_option maxRecDepth 20000 in
theorem hg_ha {j : Nat} (hj : j < 4) : (if j < 4 then some (198 + j) else none : Option Nat) = some (197 + j + 1) := by rw [if_pos hj]; congr 1; omega
set_option maxRecDepth 20000 in
theorem hg_ends {j : Nat} (hj : j < 24) : (if j < 24 then some (97 + 3 * j) else none : Option Nat) = some (93 + 3 * (j + 1) + 1) := by rw [if_pos hj]; congr 1; omega
variable {ms mk mp : hA} {mw : Nat → Int32} {mc : hC} {md : Int32 × (Nat → Int32)} {mt : hF} {me : hE}
set_option maxRecDepth 20000 in
theorem mq_203 : (hc r s w c b d k t ++ hm ms mk mp mw mc md mt me)[203]? = some (.inr (9, [.int (nI ms.1), .ref 205, .ref 206, .int (nI mk.1), .ref 207, .ref 208, .int (nI mp.1), .ref 209, .ref 210, .int mc.1, .int md.1, .ref 211, .long mc.2.1, .int mc.2.2.1, .ref 212, .ref 213, .ref 214, .int (nI mc.2.2.2.2.2.2.1), .ref 215, .ref 216, .ref 217, .ref 218, .ref 219, .ref 220, .ref 221, .ref 222, .ref 223])) := rfl
set_option maxRecDepth 20000 in
theorem mq_204 : (hc r s w c b d k t ++ hm ms mk mp mw mc md mt me)[204]? = some (.inl (0, 36, .inl ms.2.1)) := rfl
set_option maxRecDepth 20000 in
theorem mq_205 : (hc r s w c b d k t ++ hm ms mk mp mw mc md mt me)[205]? = some (.inl (0, 16, .inl ms.2.2)) := rfl
set_option maxRecDepth 20000 in
theorem mq_206 : (hc r s w c b d k t ++ hm ms mk mp mw mc md mt me)[206]? = some (.inl (0, 64, .inl mk.2.1)) := rfl
set_option maxRecDepth 20000 in
theorem mq_207 : (hc r s w c b d k t ++ hm ms mk mp mw mc md mt me)[207]? = some (.inl (0, 16, .inl mk.2.2)) := rfl
set_option maxRecDepth 20000 in
theorem mq_208 : (hc r s w c b d k t ++ hm ms mk mp mw mc md mt me)[208]? = some (.inl (0, 6, .inl mp.2.1)) := rfl
set_option maxRecDepth 20000 in
theorem mq_209 : (hc r s w c b d k t ++ hm ms mk mp mw mc md mt me)[209]? = some (.inl (0, 6, .inl mp.2.2)) := rfl
set_option maxRecDepth 20000 in
theorem mq_210 : (hc r s w c b d k t ++ hm ms mk mp mw mc md mt me)[210]? = some (.inl (0, 7, .inl mw)) := rfl
set_option maxRecDepth 20000 in
theorem mq_211 : (hc r s w c b d k t ++ hm ms mk mp mw mc md mt me)[211]? = some (.inl (1, 24, .inr (.inl mc.2.2.2.1))) := rfl
set_option maxRecDepth 20000 in
theorem mq_212 : (hc r s w c b d k t ++ hm ms mk mp mw mc md mt me)[212]? = some (.inl (1, 24, .inr (.inl mc.2.2.2.2.1))) := rfl
set_option maxRecDepth 20000 in
theorem mq_213 : (hc r s w c b d k t ++ hm ms mk mp mw mc md mt me)[213]? = some (.inl (1, 96, .inr (.inl mc.2.2.2.2.2.1))) := rfl
set_option maxRecDepth 20000 in
theorem mq_214 : (hc r s w c b d k t ++ hm ms mk mp mw mc md mt me)[214]? = some (.inl (1, 11, .inr (.inl mc.2.2.2.2.2.2.2.1))) := rfl
set_option maxRecDepth 20000 in
theorem mq_215 : (hc r s w c b d k t ++ hm ms mk mp mw mc md mt me)[215]? = some (.inl (0, 66, .inl mc.2.2.2.2.2.2.2.2)) := rfl
set_option maxRecDepth 20000 in
theorem mq_216 : (hc r s w c b d k t ++ hm ms mk mp mw mc md mt me)[216]? = some (.inl (0, 6, .inl md.2)) := rfl
set_option maxRecDepth 20000 in
theorem mq_217 : (hc r s w c b d k t ++ hm ms mk mp mw mc md mt me)[217]? = some (.inl (1, 144, .inr (.inl mt.1))) := rfl
set_option maxRecDepth 20000 in
theorem mq_218 : (hc r s w c b d k t ++ hm ms mk mp mw mc md mt me)[218]? = some (.inl (1, 144, .inr (.inl mt.2.1))) := rfl
set_option maxRecDepth 20000 in
theorem mq_219 : (hc r s w c b d k t ++ hm ms mk mp mw mc md mt me)[219]? = some (.inl (1, 144, .inr (.inl mt.2.2))) := rfl
set_option maxRecDepth 20000 in
theorem mq_220 : (hc r s w c b d k t ++ hm ms mk mp mw mc md mt me)[220]? = some (.inl (0, 12, .inl me.1)) := rfl
set_option maxRecDepth 20000 in
theorem mq_221 : (hc r s w c b d k t ++ hm ms mk mp mw mc md mt me)[221]? = some (.inl (0, 12, .inl me.2.1)) := rfl
set_option maxRecDepth 20000 in
theorem mq_222 : (hc r s w c b d k t ++ hm ms mk mp mw mc md mt me)[222]? = some (.inl (0, 12, .inl me.2.2)) := rfl
set_option maxRecDepth 20000 in
theorem mo_set {v0 v1 v2 v7 : Nat} {x3 x4 x6 : Int32} {x5 : Int64} : (hc r s w c b d k t ++ hm ms mk mp mw mc md mt me).set 203 (.inr (9, [.int (nI v0), .ref 205, .ref 206, .int (nI v1), .ref 207, .ref 208, .int (nI v2), .ref 209, .ref 210, .int x3, .int x4, .ref 211, .long x5, .int x6, .ref 212, .ref 213, .ref 214, .int (nI v7), .ref 215, .ref 216, .ref 217, .ref 218, .ref 219, .ref 220, .ref 221, .ref 222, .ref 223])) = hc r s w c b d k t ++ hm (v0, ms.2) (v1, mk.2) (v2, mp.2) mw (x3, x5, x6, mc.2.2.2.1, mc.2.2.2.2.1, mc.2.2.2.2.2.1, v7, mc.2.2.2.2.2.2.2) (x4, md.2) mt me := rfl
set_option maxRecDepth 20000 in
theorem ma_weights {f : Nat → Int32} : (hc r s w c b d k t ++ hm ms mk mp mw mc md mt me).set 204 (.inl (0, 36, .inl f)) = hc r s w c b d k t ++ hm (ms.1, f, ms.2.2) mk mp mw mc md mt me := rfl
set_option maxRecDepth 20000 in
theorem ma_moves {f : Nat → Int32} : (hc r s w c b d k t ++ hm ms mk mp mw mc md mt me).set 205 (.inl (0, 16, .inl f)) = hc r s w c b d k t ++ hm (ms.1, ms.2.1, f) mk mp mw mc md mt me := rfl
set_option maxRecDepth 20000 in
theorem ma_rules {f : Nat → Int32} : (hc r s w c b d k t ++ hm ms mk mp mw mc md mt me).set 206 (.inl (0, 64, .inl f)) = hc r s w c b d k t ++ hm ms (mk.1, f, mk.2.2) mp mw mc md mt me := rfl
set_option maxRecDepth 20000 in
theorem ma_leaves {f : Nat → Int32} : (hc r s w c b d k t ++ hm ms mk mp mw mc md mt me).set 207 (.inl (0, 16, .inl f)) = hc r s w c b d k t ++ hm ms (mk.1, mk.2.1, f) mp mw mc md mt me := rfl
set_option maxRecDepth 20000 in
theorem ma_signs {f : Nat → Int32} : (hc r s w c b d k t ++ hm ms mk mp mw mc md mt me).set 208 (.inl (0, 6, .inl f)) = hc r s w c b d k t ++ hm ms mk (mp.1, f, mp.2.2) mw mc md mt me := rfl
set_option maxRecDepth 20000 in
theorem ma_held {f : Nat → Int32} : (hc r s w c b d k t ++ hm ms mk mp mw mc md mt me).set 209 (.inl (0, 6, .inl f)) = hc r s w c b d k t ++ hm ms mk (mp.1, mp.2.1, f) mw mc md mt me := rfl
set_option maxRecDepth 20000 in
theorem ma_way {f : Nat → Int32} : (hc r s w c b d k t ++ hm ms mk mp mw mc md mt me).set 210 (.inl (0, 7, .inl f)) = hc r s w c b d k t ++ hm ms mk mp f mc md mt me := rfl
set_option maxRecDepth 20000 in
theorem ma_shares {f : Nat → Int64} : (hc r s w c b d k t ++ hm ms mk mp mw mc md mt me).set 211 (.inl (1, 24, .inr (.inl f))) = hc r s w c b d k t ++ hm ms mk mp mw (mc.1, mc.2.1, mc.2.2.1, f, mc.2.2.2.2.1, mc.2.2.2.2.2.1, mc.2.2.2.2.2.2.1, mc.2.2.2.2.2.2.2.1, mc.2.2.2.2.2.2.2.2) md mt me := rfl
set_option maxRecDepth 20000 in
theorem ma_begins {f : Nat → Int64} : (hc r s w c b d k t ++ hm ms mk mp mw mc md mt me).set 212 (.inl (1, 24, .inr (.inl f))) = hc r s w c b d k t ++ hm ms mk mp mw (mc.1, mc.2.1, mc.2.2.1, mc.2.2.2.1, f, mc.2.2.2.2.2.1, mc.2.2.2.2.2.2.1, mc.2.2.2.2.2.2.2.1, mc.2.2.2.2.2.2.2.2) md mt me := rfl
set_option maxRecDepth 20000 in
theorem ma_pairs {f : Nat → Int64} : (hc r s w c b d k t ++ hm ms mk mp mw mc md mt me).set 213 (.inl (1, 96, .inr (.inl f))) = hc r s w c b d k t ++ hm ms mk mp mw (mc.1, mc.2.1, mc.2.2.1, mc.2.2.2.1, mc.2.2.2.2.1, f, mc.2.2.2.2.2.2.1, mc.2.2.2.2.2.2.2.1, mc.2.2.2.2.2.2.2.2) md mt me := rfl
set_option maxRecDepth 20000 in
theorem ma_keptWeight {f : Nat → Int64} : (hc r s w c b d k t ++ hm ms mk mp mw mc md mt me).set 214 (.inl (1, 11, .inr (.inl f))) = hc r s w c b d k t ++ hm ms mk mp mw (mc.1, mc.2.1, mc.2.2.1, mc.2.2.2.1, mc.2.2.2.2.1, mc.2.2.2.2.2.1, mc.2.2.2.2.2.2.1, f, mc.2.2.2.2.2.2.2.2) md mt me := rfl
set_option maxRecDepth 20000 in
theorem ma_keptWay {f : Nat → Int32} : (hc r s w c b d k t ++ hm ms mk mp mw mc md mt me).set 215 (.inl (0, 66, .inl f)) = hc r s w c b d k t ++ hm ms mk mp mw (mc.1, mc.2.1, mc.2.2.1, mc.2.2.2.1, mc.2.2.2.2.1, mc.2.2.2.2.2.1, mc.2.2.2.2.2.2.1, mc.2.2.2.2.2.2.2.1, f) md mt me := rfl
set_option maxRecDepth 20000 in
theorem ma_drawn {f : Nat → Int32} : (hc r s w c b d k t ++ hm ms mk mp mw mc md mt me).set 216 (.inl (0, 6, .inl f)) = hc r s w c b d k t ++ hm ms mk mp mw mc (md.1, f) mt me := rfl
set_option maxRecDepth 20000 in
theorem ma_sums {f : Nat → Int64} : (hc r s w c b d k t ++ hm ms mk mp mw mc md mt me).set 217 (.inl (1, 144, .inr (.inl f))) = hc r s w c b d k t ++ hm ms mk mp mw mc md (f, mt.2.1, mt.2.2) me := rfl
set_option maxRecDepth 20000 in
theorem ma_counts {f : Nat → Int64} : (hc r s w c b d k t ++ hm ms mk mp mw mc md mt me).set 218 (.inl (1, 144, .inr (.inl f))) = hc r s w c b d k t ++ hm ms mk mp mw mc md (mt.1, f, mt.2.2) me := rfl
set_option maxRecDepth 20000 in
theorem ma_bests {f : Nat → Int64} : (hc r s w c b d k t ++ hm ms mk mp mw mc md mt me).set 219 (.inl (1, 144, .inr (.inl f))) = hc r s w c b d k t ++ hm ms mk mp mw mc md (mt.1, mt.2.1, f) me := rfl
set_option maxRecDepth 20000 in
theorem ma_tellA {f : Nat → Int32} : (hc r s w c b d k t ++ hm ms mk mp mw mc md mt me).set 220 (.inl (0, 12, .inl f)) = hc r s w c b d k t ++ hm ms mk mp mw mc md mt (f, me.2.1, me.2.2) := rfl
set_option maxRecDepth 20000 in
theorem ma_tellB {f : Nat → Int32} : (hc r s w c b d k t ++ hm ms mk mp mw mc md mt me).set 221 (.inl (0, 12, .inl f)) = hc r s w c b d k t ++ hm ms mk mp mw mc md mt (me.1, f, me.2.2) := rfl
set_option maxRecDepth 20000 in
theorem ma_tellK {f : Nat → Int32} : (hc r s w c b d k t ++ hm ms mk mp mw mc md mt me).set 222 (.inl (0, 12, .inl f)) = hc r s w c b d k t ++ hm ms mk mp mw mc md mt (me.1, me.2.1, f) := rfl
end HQ
