abbrev hR : Type := (Nat → Int32) × (Nat → Int32) × Nat
abbrev hG : Type := Nat → Nat → Nat
abbrev hS : Type := hG × hG × Nat
abbrev hW : Type := hG × hG × hG × hG × hG × Nat
abbrev hL : Type := (Nat → Nat) × (Nat → Nat) × Nat
abbrev hB : Type := (Nat → hL) × Nat
abbrev hD : Type := Nat × Nat × Nat × Nat × Nat × Nat
abbrev hK : Type := hG × hG × Nat
abbrev hT : Type := hG × hG × hG × hG × (Nat → Nat) × (Nat → Nat) × Nat × Nat
abbrev hA : Type := Nat × (Nat → Nat) × (Nat → Nat)
abbrev hP : Type := Nat × (Nat → Int32) × (Nat → Int32)
abbrev hC : Type := Nat × Nat × Nat × (Nat → Nat) × (Nat → Nat) × (Nat → Nat) × Nat × (Nat → Nat) × (Nat → Int32)
abbrev hF : Type := (Nat → Nat) × (Nat → Nat) × (Nat → Nat)
abbrev hE : Type := (Nat → Int32) × (Nat → Int32) × (Nat → Int32)
def hc (r : hR) (s : hS) (w c : hW) (b : hB) (d : hD) (k : hK) (t : hT) : List ab_C := [
  .inr (0, [.ref 2, .ref 5, .ref 16, .ref 54, .ref 92, .ref 169, .ref 170, .ref 181]),
  .inr (1, [.ref 3, .ref 4, .int (nI r.2.2)]),
  .inl (0, 6, .inl r.1),
  .inl (0, 6, .inl r.2.1),
  .inr (2, [.ref 6, .ref 11, .int (nI s.2.2)]),
  .inl (2, 4, .inr (.inr (.inr (.inr (fun j => if j < 4 then some (7 + j) else none))))),
  .inl (0, 9, .inl (fun j => nI (s.1 0 j))),
  .inl (0, 9, .inl (fun j => nI (s.1 1 j))),
  .inl (0, 9, .inl (fun j => nI (s.1 2 j))),
  .inl (0, 9, .inl (fun j => nI (s.1 3 j))),
  .inl (2, 4, .inr (.inr (.inr (.inr (fun j => if j < 4 then some (12 + j) else none))))),
  .inl (0, 4, .inl (fun j => nI (s.2.1 0 j))),
  .inl (0, 4, .inl (fun j => nI (s.2.1 1 j))),
  .inl (0, 4, .inl (fun j => nI (s.2.1 2 j))),
  .inl (0, 4, .inl (fun j => nI (s.2.1 3 j))),
  .inr (3, [.ref 2, .ref 5, .int (nI 16), .ref 17, .ref 24, .ref 31, .ref 39, .ref 47, .int (nI w.2.2.2.2.2)]),
  .inl (3, 6, .inr (.inr (.inr (.inr (fun j => if j < 6 then some (18 + j) else none))))),
  .inl (1, 4, .inr (.inl (fun j => lN (w.1 0 j)))),
  .inl (1, 4, .inr (.inl (fun j => lN (w.1 1 j)))),
  .inl (1, 4, .inr (.inl (fun j => lN (w.1 2 j)))),
  .inl (1, 4, .inr (.inl (fun j => lN (w.1 3 j)))),
  .inl (1, 4, .inr (.inl (fun j => lN (w.1 4 j)))),
  .inl (1, 4, .inr (.inl (fun j => lN (w.1 5 j)))),
  .inl (3, 6, .inr (.inr (.inr (.inr (fun j => if j < 6 then some (25 + j) else none))))),
  .inl (1, 4, .inr (.inl (fun j => lN (w.2.1 0 j)))),
  .inl (1, 4, .inr (.inl (fun j => lN (w.2.1 1 j)))),
  .inl (1, 4, .inr (.inl (fun j => lN (w.2.1 2 j)))),
  .inl (1, 4, .inr (.inl (fun j => lN (w.2.1 3 j)))),
  .inl (1, 4, .inr (.inl (fun j => lN (w.2.1 4 j)))),
  .inl (1, 4, .inr (.inl (fun j => lN (w.2.1 5 j)))),
  .inl (3, 7, .inr (.inr (.inr (.inr (fun j => if j < 7 then some (32 + j) else none))))),
  .inl (1, 4, .inr (.inl (fun j => lN (w.2.2.1 0 j)))),
  .inl (1, 4, .inr (.inl (fun j => lN (w.2.2.1 1 j)))),
  .inl (1, 4, .inr (.inl (fun j => lN (w.2.2.1 2 j)))),
  .inl (1, 4, .inr (.inl (fun j => lN (w.2.2.1 3 j)))),
  .inl (1, 4, .inr (.inl (fun j => lN (w.2.2.1 4 j)))),
  .inl (1, 4, .inr (.inl (fun j => lN (w.2.2.1 5 j)))),
  .inl (1, 4, .inr (.inl (fun j => lN (w.2.2.1 6 j)))),
  .inl (3, 7, .inr (.inr (.inr (.inr (fun j => if j < 7 then some (40 + j) else none))))),
  .inl (1, 4, .inr (.inl (fun j => lN (w.2.2.2.1 0 j)))),
  .inl (1, 4, .inr (.inl (fun j => lN (w.2.2.2.1 1 j)))),
  .inl (1, 4, .inr (.inl (fun j => lN (w.2.2.2.1 2 j)))),
  .inl (1, 4, .inr (.inl (fun j => lN (w.2.2.2.1 3 j)))),
  .inl (1, 4, .inr (.inl (fun j => lN (w.2.2.2.1 4 j)))),
  .inl (1, 4, .inr (.inl (fun j => lN (w.2.2.2.1 5 j)))),
  .inl (1, 4, .inr (.inl (fun j => lN (w.2.2.2.1 6 j)))),
  .inl (3, 6, .inr (.inr (.inr (.inr (fun j => if j < 6 then some (48 + j) else none))))),
  .inl (1, 4, .inr (.inl (fun j => lN (w.2.2.2.2.1 0 j)))),
  .inl (1, 4, .inr (.inl (fun j => lN (w.2.2.2.2.1 1 j)))),
  .inl (1, 4, .inr (.inl (fun j => lN (w.2.2.2.2.1 2 j)))),
  .inl (1, 4, .inr (.inl (fun j => lN (w.2.2.2.2.1 3 j)))),
  .inl (1, 4, .inr (.inl (fun j => lN (w.2.2.2.2.1 4 j)))),
  .inl (1, 4, .inr (.inl (fun j => lN (w.2.2.2.2.1 5 j)))),
  .inr (3, [.ref 2, .ref 5, .int (nI 1), .ref 55, .ref 62, .ref 69, .ref 77, .ref 85, .int (nI c.2.2.2.2.2)]),
  .inl (3, 6, .inr (.inr (.inr (.inr (fun j => if j < 6 then some (56 + j) else none))))),
  .inl (1, 4, .inr (.inl (fun j => lN (c.1 0 j)))),
  .inl (1, 4, .inr (.inl (fun j => lN (c.1 1 j)))),
  .inl (1, 4, .inr (.inl (fun j => lN (c.1 2 j)))),
  .inl (1, 4, .inr (.inl (fun j => lN (c.1 3 j)))),
  .inl (1, 4, .inr (.inl (fun j => lN (c.1 4 j)))),
  .inl (1, 4, .inr (.inl (fun j => lN (c.1 5 j)))),
  .inl (3, 6, .inr (.inr (.inr (.inr (fun j => if j < 6 then some (63 + j) else none))))),
  .inl (1, 4, .inr (.inl (fun j => lN (c.2.1 0 j)))),
  .inl (1, 4, .inr (.inl (fun j => lN (c.2.1 1 j)))),
  .inl (1, 4, .inr (.inl (fun j => lN (c.2.1 2 j)))),
  .inl (1, 4, .inr (.inl (fun j => lN (c.2.1 3 j)))),
  .inl (1, 4, .inr (.inl (fun j => lN (c.2.1 4 j)))),
  .inl (1, 4, .inr (.inl (fun j => lN (c.2.1 5 j)))),
  .inl (3, 7, .inr (.inr (.inr (.inr (fun j => if j < 7 then some (70 + j) else none))))),
  .inl (1, 4, .inr (.inl (fun j => lN (c.2.2.1 0 j)))),
  .inl (1, 4, .inr (.inl (fun j => lN (c.2.2.1 1 j)))),
  .inl (1, 4, .inr (.inl (fun j => lN (c.2.2.1 2 j)))),
  .inl (1, 4, .inr (.inl (fun j => lN (c.2.2.1 3 j)))),
  .inl (1, 4, .inr (.inl (fun j => lN (c.2.2.1 4 j)))),
  .inl (1, 4, .inr (.inl (fun j => lN (c.2.2.1 5 j)))),
  .inl (1, 4, .inr (.inl (fun j => lN (c.2.2.1 6 j)))),
  .inl (3, 7, .inr (.inr (.inr (.inr (fun j => if j < 7 then some (78 + j) else none))))),
  .inl (1, 4, .inr (.inl (fun j => lN (c.2.2.2.1 0 j)))),
  .inl (1, 4, .inr (.inl (fun j => lN (c.2.2.2.1 1 j)))),
  .inl (1, 4, .inr (.inl (fun j => lN (c.2.2.2.1 2 j)))),
  .inl (1, 4, .inr (.inl (fun j => lN (c.2.2.2.1 3 j)))),
  .inl (1, 4, .inr (.inl (fun j => lN (c.2.2.2.1 4 j)))),
  .inl (1, 4, .inr (.inl (fun j => lN (c.2.2.2.1 5 j)))),
  .inl (1, 4, .inr (.inl (fun j => lN (c.2.2.2.1 6 j)))),
  .inl (3, 6, .inr (.inr (.inr (.inr (fun j => if j < 6 then some (86 + j) else none))))),
  .inl (1, 4, .inr (.inl (fun j => lN (c.2.2.2.2.1 0 j)))),
  .inl (1, 4, .inr (.inl (fun j => lN (c.2.2.2.2.1 1 j)))),
  .inl (1, 4, .inr (.inl (fun j => lN (c.2.2.2.2.1 2 j)))),
  .inl (1, 4, .inr (.inl (fun j => lN (c.2.2.2.2.1 3 j)))),
  .inl (1, 4, .inr (.inl (fun j => lN (c.2.2.2.2.1 4 j)))),
  .inl (1, 4, .inr (.inl (fun j => lN (c.2.2.2.2.1 5 j)))),
  .inr (4, [.ref 2, .ref 5, .ref 16, .ref 93, .ref 94, .int (nI b.2)]),
  .inl (4, 24, .inr (.inr (.inr (.inr (fun j => if j < 24 then some (97 + 3 * j) else none))))),
  .inr (5, [.ref 95, .ref 96, .int (nI (b.1 0).2.2)]),
  .inl (1, 10, .inr (.inl (fun j => lN ((b.1 0).1 j)))),
  .inl (0, 10, .inl (fun j => nI ((b.1 0).2.1 j))),
  .inr (5, [.ref 98, .ref 99, .int (nI (b.1 1).2.2)]),
  .inl (1, 10, .inr (.inl (fun j => lN ((b.1 1).1 j)))),
  .inl (0, 10, .inl (fun j => nI ((b.1 1).2.1 j))),
  .inr (5, [.ref 101, .ref 102, .int (nI (b.1 2).2.2)]),
  .inl (1, 10, .inr (.inl (fun j => lN ((b.1 2).1 j)))),
  .inl (0, 10, .inl (fun j => nI ((b.1 2).2.1 j))),
  .inr (5, [.ref 104, .ref 105, .int (nI (b.1 3).2.2)]),
  .inl (1, 10, .inr (.inl (fun j => lN ((b.1 3).1 j)))),
  .inl (0, 10, .inl (fun j => nI ((b.1 3).2.1 j))),
  .inr (5, [.ref 107, .ref 108, .int (nI (b.1 4).2.2)]),
  .inl (1, 10, .inr (.inl (fun j => lN ((b.1 4).1 j)))),
  .inl (0, 10, .inl (fun j => nI ((b.1 4).2.1 j))),
  .inr (5, [.ref 110, .ref 111, .int (nI (b.1 5).2.2)]),
  .inl (1, 10, .inr (.inl (fun j => lN ((b.1 5).1 j)))),
  .inl (0, 10, .inl (fun j => nI ((b.1 5).2.1 j))),
  .inr (5, [.ref 113, .ref 114, .int (nI (b.1 6).2.2)]),
  .inl (1, 10, .inr (.inl (fun j => lN ((b.1 6).1 j)))),
  .inl (0, 10, .inl (fun j => nI ((b.1 6).2.1 j))),
  .inr (5, [.ref 116, .ref 117, .int (nI (b.1 7).2.2)]),
  .inl (1, 10, .inr (.inl (fun j => lN ((b.1 7).1 j)))),
  .inl (0, 10, .inl (fun j => nI ((b.1 7).2.1 j))),
  .inr (5, [.ref 119, .ref 120, .int (nI (b.1 8).2.2)]),
  .inl (1, 10, .inr (.inl (fun j => lN ((b.1 8).1 j)))),
  .inl (0, 10, .inl (fun j => nI ((b.1 8).2.1 j))),
  .inr (5, [.ref 122, .ref 123, .int (nI (b.1 9).2.2)]),
  .inl (1, 10, .inr (.inl (fun j => lN ((b.1 9).1 j)))),
  .inl (0, 10, .inl (fun j => nI ((b.1 9).2.1 j))),
  .inr (5, [.ref 125, .ref 126, .int (nI (b.1 10).2.2)]),
  .inl (1, 10, .inr (.inl (fun j => lN ((b.1 10).1 j)))),
  .inl (0, 10, .inl (fun j => nI ((b.1 10).2.1 j))),
  .inr (5, [.ref 128, .ref 129, .int (nI (b.1 11).2.2)]),
  .inl (1, 10, .inr (.inl (fun j => lN ((b.1 11).1 j)))),
  .inl (0, 10, .inl (fun j => nI ((b.1 11).2.1 j))),
  .inr (5, [.ref 131, .ref 132, .int (nI (b.1 12).2.2)]),
  .inl (1, 10, .inr (.inl (fun j => lN ((b.1 12).1 j)))),
  .inl (0, 10, .inl (fun j => nI ((b.1 12).2.1 j))),
  .inr (5, [.ref 134, .ref 135, .int (nI (b.1 13).2.2)]),
  .inl (1, 10, .inr (.inl (fun j => lN ((b.1 13).1 j)))),
  .inl (0, 10, .inl (fun j => nI ((b.1 13).2.1 j))),
  .inr (5, [.ref 137, .ref 138, .int (nI (b.1 14).2.2)]),
  .inl (1, 10, .inr (.inl (fun j => lN ((b.1 14).1 j)))),
  .inl (0, 10, .inl (fun j => nI ((b.1 14).2.1 j))),
  .inr (5, [.ref 140, .ref 141, .int (nI (b.1 15).2.2)]),
  .inl (1, 10, .inr (.inl (fun j => lN ((b.1 15).1 j)))),
  .inl (0, 10, .inl (fun j => nI ((b.1 15).2.1 j))),
  .inr (5, [.ref 143, .ref 144, .int (nI (b.1 16).2.2)]),
  .inl (1, 10, .inr (.inl (fun j => lN ((b.1 16).1 j)))),
  .inl (0, 10, .inl (fun j => nI ((b.1 16).2.1 j))),
  .inr (5, [.ref 146, .ref 147, .int (nI (b.1 17).2.2)]),
  .inl (1, 10, .inr (.inl (fun j => lN ((b.1 17).1 j)))),
  .inl (0, 10, .inl (fun j => nI ((b.1 17).2.1 j))),
  .inr (5, [.ref 149, .ref 150, .int (nI (b.1 18).2.2)]),
  .inl (1, 10, .inr (.inl (fun j => lN ((b.1 18).1 j)))),
  .inl (0, 10, .inl (fun j => nI ((b.1 18).2.1 j))),
  .inr (5, [.ref 152, .ref 153, .int (nI (b.1 19).2.2)]),
  .inl (1, 10, .inr (.inl (fun j => lN ((b.1 19).1 j)))),
  .inl (0, 10, .inl (fun j => nI ((b.1 19).2.1 j))),
  .inr (5, [.ref 155, .ref 156, .int (nI (b.1 20).2.2)]),
  .inl (1, 10, .inr (.inl (fun j => lN ((b.1 20).1 j)))),
  .inl (0, 10, .inl (fun j => nI ((b.1 20).2.1 j))),
  .inr (5, [.ref 158, .ref 159, .int (nI (b.1 21).2.2)]),
  .inl (1, 10, .inr (.inl (fun j => lN ((b.1 21).1 j)))),
  .inl (0, 10, .inl (fun j => nI ((b.1 21).2.1 j))),
  .inr (5, [.ref 161, .ref 162, .int (nI (b.1 22).2.2)]),
  .inl (1, 10, .inr (.inl (fun j => lN ((b.1 22).1 j)))),
  .inl (0, 10, .inl (fun j => nI ((b.1 22).2.1 j))),
  .inr (5, [.ref 164, .ref 165, .int (nI (b.1 23).2.2)]),
  .inl (1, 10, .inr (.inl (fun j => lN ((b.1 23).1 j)))),
  .inl (0, 10, .inl (fun j => nI ((b.1 23).2.1 j))),
  .inr (5, [.ref 167, .ref 168, .int (nI (b.1 24).2.2)]),
  .inl (1, 10, .inr (.inl (fun j => lN ((b.1 24).1 j)))),
  .inl (0, 10, .inl (fun j => nI ((b.1 24).2.1 j))),
  .inr (6, [.ref 2, .ref 5, .ref 16, .long (lN d.1), .int (nI d.2.1), .int (nI d.2.2.1), .long (lN d.2.2.2.1), .int (nI d.2.2.2.2.1), .int (nI d.2.2.2.2.2)]),
  .inr (7, [.ref 171, .ref 176, .int (nI k.2.2)]),
  .inl (2, 4, .inr (.inr (.inr (.inr (fun j => if j < 4 then some (172 + j) else none))))),
  .inl (0, 16, .inl (fun j => nI (k.1 0 j))),
  .inl (0, 16, .inl (fun j => nI (k.1 1 j))),
  .inl (0, 16, .inl (fun j => nI (k.1 2 j))),
  .inl (0, 16, .inl (fun j => nI (k.1 3 j))),
  .inl (2, 4, .inr (.inr (.inr (.inr (fun j => if j < 4 then some (177 + j) else none))))),
  .inl (0, 4, .inl (fun j => nI (k.2.1 0 j))),
  .inl (0, 4, .inl (fun j => nI (k.2.1 1 j))),
  .inl (0, 4, .inl (fun j => nI (k.2.1 2 j))),
  .inl (0, 4, .inl (fun j => nI (k.2.1 3 j))),
  .inr (8, [.ref 2, .ref 170, .ref 182, .ref 187, .ref 192, .ref 197, .ref 202, .ref 203, .int (nI t.2.2.2.2.2.2.1), .int (nI t.2.2.2.2.2.2.2)]),
  .inl (3, 4, .inr (.inr (.inr (.inr (fun j => if j < 4 then some (183 + j) else none))))),
  .inl (1, 36, .inr (.inl (fun j => lN (t.1 0 j)))),
  .inl (1, 36, .inr (.inl (fun j => lN (t.1 1 j)))),
  .inl (1, 36, .inr (.inl (fun j => lN (t.1 2 j)))),
  .inl (1, 36, .inr (.inl (fun j => lN (t.1 3 j)))),
  .inl (3, 4, .inr (.inr (.inr (.inr (fun j => if j < 4 then some (188 + j) else none))))),
  .inl (1, 36, .inr (.inl (fun j => lN (t.2.1 0 j)))),
  .inl (1, 36, .inr (.inl (fun j => lN (t.2.1 1 j)))),
  .inl (1, 36, .inr (.inl (fun j => lN (t.2.1 2 j)))),
  .inl (1, 36, .inr (.inl (fun j => lN (t.2.1 3 j)))),
  .inl (3, 4, .inr (.inr (.inr (.inr (fun j => if j < 4 then some (193 + j) else none))))),
  .inl (1, 36, .inr (.inl (fun j => lN (t.2.2.1 0 j)))),
  .inl (1, 36, .inr (.inl (fun j => lN (t.2.2.1 1 j)))),
  .inl (1, 36, .inr (.inl (fun j => lN (t.2.2.1 2 j)))),
  .inl (1, 36, .inr (.inl (fun j => lN (t.2.2.1 3 j)))),
  .inl (3, 4, .inr (.inr (.inr (.inr (fun j => if j < 4 then some (198 + j) else none))))),
  .inl (1, 36, .inr (.inl (fun j => lN (t.2.2.2.1 0 j)))),
  .inl (1, 36, .inr (.inl (fun j => lN (t.2.2.2.1 1 j)))),
  .inl (1, 36, .inr (.inl (fun j => lN (t.2.2.2.1 2 j)))),
  .inl (1, 36, .inr (.inl (fun j => lN (t.2.2.2.1 3 j)))),
  .inl (0, 7, .inl (fun j => nI (t.2.2.2.2.1 j))),
  .inl (0, 7, .inl (fun j => nI (t.2.2.2.2.2.1 j)))]
def hm (ms mk : hA) (mp : hP) (mw : Nat → Int32) (mc : hC) (md : Nat × (Nat → Int32)) (mt : hF) (me : hE) : List ab_C := [
  .inr (9, [.int (nI ms.1), .ref 205, .ref 206, .int (nI mk.1), .ref 207, .ref 208, .int (nI mp.1), .ref 209, .ref 210, .int (nI mc.1), .int (nI md.1), .ref 211, .long (lN mc.2.1), .int (nI mc.2.2.1), .ref 212, .ref 213, .ref 214, .int (nI mc.2.2.2.2.2.2.1), .ref 215, .ref 216, .ref 217, .ref 218, .ref 219, .ref 220, .ref 221, .ref 222, .ref 223]),
  .inl (0, 36, .inl (fun j => nI (ms.2.1 j))),
  .inl (0, 16, .inl (fun j => nI (ms.2.2 j))),
  .inl (0, 64, .inl (fun j => nI (mk.2.1 j))),
  .inl (0, 16, .inl (fun j => nI (mk.2.2 j))),
  .inl (0, 6, .inl mp.2.1),
  .inl (0, 6, .inl mp.2.2),
  .inl (0, 7, .inl mw),
  .inl (1, 24, .inr (.inl (fun j => lN (mc.2.2.2.1 j)))),
  .inl (1, 24, .inr (.inl (fun j => lN (mc.2.2.2.2.1 j)))),
  .inl (1, 96, .inr (.inl (fun j => lN (mc.2.2.2.2.2.1 j)))),
  .inl (1, 11, .inr (.inl (fun j => lN (mc.2.2.2.2.2.2.2.1 j)))),
  .inl (0, 66, .inl mc.2.2.2.2.2.2.2.2),
  .inl (0, 6, .inl md.2),
  .inl (1, 144, .inr (.inl (fun j => lN (mt.1 j)))),
  .inl (1, 144, .inr (.inl (fun j => lN (mt.2.1 j)))),
  .inl (1, 144, .inr (.inl (fun j => lN (mt.2.2 j)))),
  .inl (0, 12, .inl me.1),
  .inl (0, 12, .inl me.2.1),
  .inl (0, 12, .inl me.2.2)]
def up2 (f : hG) (i j x : Nat) : hG := va_up f i (va_up (f i) j x)
set_option maxRecDepth 20000 in
theorem up_l (g : Nat → Nat) (j x : Nat) : vp_updL (fun j => lN (g j)) j (lN x) = fun i => lN (va_up g j x i) := funext fun i => by unfold vp_updL va_up; split <;> rfl
set_option maxRecDepth 20000 in
theorem up_i (g : Nat → Nat) (j x : Nat) : upd (fun j => nI (g j)) j (nI x) = fun i => nI (va_up g j x i) := funext fun i => by unfold upd va_up; split <;> rfl
section HQ
variable {r : hR} {s : hS} {w c : hW} {b : hB} {d : hD} {k : hK} {t : hT} {Z : List ab_C}
set_option maxRecDepth 20000 in
theorem hq_0 : (hc r s w c b d k t ++ Z)[0]? = some (.inr (0, [.ref 2, .ref 5, .ref 16, .ref 54, .ref 92, .ref 169, .ref 170, .ref 181])) := rfl
set_option maxRecDepth 20000 in
theorem hq_1 : (hc r s w c b d k t ++ Z)[1]? = some (.inr (1, [.ref 3, .ref 4, .int (nI r.2.2)])) := rfl
set_option maxRecDepth 20000 in
theorem hq_2 : (hc r s w c b d k t ++ Z)[2]? = some (.inl (0, 6, .inl r.1)) := rfl
set_option maxRecDepth 20000 in
theorem hq_3 : (hc r s w c b d k t ++ Z)[3]? = some (.inl (0, 6, .inl r.2.1)) := rfl
set_option maxRecDepth 20000 in
theorem hq_4 : (hc r s w c b d k t ++ Z)[4]? = some (.inr (2, [.ref 6, .ref 11, .int (nI s.2.2)])) := rfl
set_option maxRecDepth 20000 in
theorem hq_15 : (hc r s w c b d k t ++ Z)[15]? = some (.inr (3, [.ref 2, .ref 5, .int (nI 16), .ref 17, .ref 24, .ref 31, .ref 39, .ref 47, .int (nI w.2.2.2.2.2)])) := rfl
set_option maxRecDepth 20000 in
theorem hq_53 : (hc r s w c b d k t ++ Z)[53]? = some (.inr (3, [.ref 2, .ref 5, .int (nI 1), .ref 55, .ref 62, .ref 69, .ref 77, .ref 85, .int (nI c.2.2.2.2.2)])) := rfl
set_option maxRecDepth 20000 in
theorem hq_91 : (hc r s w c b d k t ++ Z)[91]? = some (.inr (4, [.ref 2, .ref 5, .ref 16, .ref 93, .ref 94, .int (nI b.2)])) := rfl
set_option maxRecDepth 20000 in
theorem hq_92 : (hc r s w c b d k t ++ Z)[92]? = some (.inl (4, 24, .inr (.inr (.inr (.inr (fun j => if j < 24 then some (97 + 3 * j) else none)))))) := rfl
set_option maxRecDepth 20000 in
theorem hq_168 : (hc r s w c b d k t ++ Z)[168]? = some (.inr (6, [.ref 2, .ref 5, .ref 16, .long (lN d.1), .int (nI d.2.1), .int (nI d.2.2.1), .long (lN d.2.2.2.1), .int (nI d.2.2.2.2.1), .int (nI d.2.2.2.2.2)])) := rfl
set_option maxRecDepth 20000 in
theorem hq_169 : (hc r s w c b d k t ++ Z)[169]? = some (.inr (7, [.ref 171, .ref 176, .int (nI k.2.2)])) := rfl
set_option maxRecDepth 20000 in
theorem hq_180 : (hc r s w c b d k t ++ Z)[180]? = some (.inr (8, [.ref 2, .ref 170, .ref 182, .ref 187, .ref 192, .ref 197, .ref 202, .ref 203, .int (nI t.2.2.2.2.2.2.1), .int (nI t.2.2.2.2.2.2.2)])) := rfl
set_option maxRecDepth 20000 in
theorem hq_201 : (hc r s w c b d k t ++ Z)[201]? = some (.inl (0, 7, .inl (fun j => nI (t.2.2.2.2.1 j)))) := rfl
set_option maxRecDepth 20000 in
theorem hq_202 : (hc r s w c b d k t ++ Z)[202]? = some (.inl (0, 7, .inl (fun j => nI (t.2.2.2.2.2.1 j)))) := rfl
set_option maxRecDepth 20000 in
theorem hq_5 : (hc r s w c b d k t ++ Z)[5]? = some (.inl (2, 4, .inr (.inr (.inr (.inr (fun j => if j < 4 then some (7 + j) else none)))))) := rfl
set_option maxRecDepth 20000 in
theorem hq_10 : (hc r s w c b d k t ++ Z)[10]? = some (.inl (2, 4, .inr (.inr (.inr (.inr (fun j => if j < 4 then some (12 + j) else none)))))) := rfl
set_option maxRecDepth 20000 in
theorem hq_16 : (hc r s w c b d k t ++ Z)[16]? = some (.inl (3, 6, .inr (.inr (.inr (.inr (fun j => if j < 6 then some (18 + j) else none)))))) := rfl
set_option maxRecDepth 20000 in
theorem hq_23 : (hc r s w c b d k t ++ Z)[23]? = some (.inl (3, 6, .inr (.inr (.inr (.inr (fun j => if j < 6 then some (25 + j) else none)))))) := rfl
set_option maxRecDepth 20000 in
theorem hq_30 : (hc r s w c b d k t ++ Z)[30]? = some (.inl (3, 7, .inr (.inr (.inr (.inr (fun j => if j < 7 then some (32 + j) else none)))))) := rfl
set_option maxRecDepth 20000 in
theorem hq_38 : (hc r s w c b d k t ++ Z)[38]? = some (.inl (3, 7, .inr (.inr (.inr (.inr (fun j => if j < 7 then some (40 + j) else none)))))) := rfl
set_option maxRecDepth 20000 in
theorem hq_46 : (hc r s w c b d k t ++ Z)[46]? = some (.inl (3, 6, .inr (.inr (.inr (.inr (fun j => if j < 6 then some (48 + j) else none)))))) := rfl
set_option maxRecDepth 20000 in
theorem hq_54 : (hc r s w c b d k t ++ Z)[54]? = some (.inl (3, 6, .inr (.inr (.inr (.inr (fun j => if j < 6 then some (56 + j) else none)))))) := rfl
set_option maxRecDepth 20000 in
theorem hq_61 : (hc r s w c b d k t ++ Z)[61]? = some (.inl (3, 6, .inr (.inr (.inr (.inr (fun j => if j < 6 then some (63 + j) else none)))))) := rfl
set_option maxRecDepth 20000 in
theorem hq_68 : (hc r s w c b d k t ++ Z)[68]? = some (.inl (3, 7, .inr (.inr (.inr (.inr (fun j => if j < 7 then some (70 + j) else none)))))) := rfl
set_option maxRecDepth 20000 in
theorem hq_76 : (hc r s w c b d k t ++ Z)[76]? = some (.inl (3, 7, .inr (.inr (.inr (.inr (fun j => if j < 7 then some (78 + j) else none)))))) := rfl
set_option maxRecDepth 20000 in
theorem hq_84 : (hc r s w c b d k t ++ Z)[84]? = some (.inl (3, 6, .inr (.inr (.inr (.inr (fun j => if j < 6 then some (86 + j) else none)))))) := rfl
set_option maxRecDepth 20000 in
theorem hq_170 : (hc r s w c b d k t ++ Z)[170]? = some (.inl (2, 4, .inr (.inr (.inr (.inr (fun j => if j < 4 then some (172 + j) else none)))))) := rfl
set_option maxRecDepth 20000 in
theorem hq_175 : (hc r s w c b d k t ++ Z)[175]? = some (.inl (2, 4, .inr (.inr (.inr (.inr (fun j => if j < 4 then some (177 + j) else none)))))) := rfl
set_option maxRecDepth 20000 in
theorem hq_181 : (hc r s w c b d k t ++ Z)[181]? = some (.inl (3, 4, .inr (.inr (.inr (.inr (fun j => if j < 4 then some (183 + j) else none)))))) := rfl
set_option maxRecDepth 20000 in
theorem hq_186 : (hc r s w c b d k t ++ Z)[186]? = some (.inl (3, 4, .inr (.inr (.inr (.inr (fun j => if j < 4 then some (188 + j) else none)))))) := rfl
set_option maxRecDepth 20000 in
theorem hq_191 : (hc r s w c b d k t ++ Z)[191]? = some (.inl (3, 4, .inr (.inr (.inr (.inr (fun j => if j < 4 then some (193 + j) else none)))))) := rfl
set_option maxRecDepth 20000 in
theorem hq_196 : (hc r s w c b d k t ++ Z)[196]? = some (.inl (3, 4, .inr (.inr (.inr (.inr (fun j => if j < 4 then some (198 + j) else none)))))) := rfl
set_option maxRecDepth 20000 in
theorem hq_93 : (hc r s w c b d k t ++ Z)[93]? = some (.inr (5, [.ref 95, .ref 96, .int (nI (b.1 0).2.2)])) := rfl
set_option maxRecDepth 20000 in
theorem hr_wt {i : Nat} (hi : i < 4) : (hc r s w c b d k t ++ Z)[6 + i]? = some (.inl (0, 9, .inl (fun j => nI (s.1 i j)))) := by
  rcases (show i = 0 ∨ i = 1 ∨ i = 2 ∨ i = 3 by omega) with rfl | rfl | rfl | rfl <;> rfl
set_option maxRecDepth 20000 in
theorem hw_wt {i j x : Nat} (hi : i < 4) : (hc r s w c b d k t ++ Z).set (6 + i) (.inl (0, 9, .inl (upd (fun j => nI (s.1 i j)) j (nI x)))) = hc r (up2 s.1 i j x, s.2.1, s.2.2) w c b d k t ++ Z := by
  rw [up_i]
  rcases (show i = 0 ∨ i = 1 ∨ i = 2 ∨ i = 3 by omega) with rfl | rfl | rfl | rfl <;> rfl
set_option maxRecDepth 20000 in
theorem hg_wt {j : Nat} (hj : j < 4) : (if j < 4 then some (7 + j) else none : Option Nat) = some (6 + j + 1) := by rw [if_pos hj]; congr 1; omega
set_option maxRecDepth 20000 in
theorem hr_mv {i : Nat} (hi : i < 4) : (hc r s w c b d k t ++ Z)[11 + i]? = some (.inl (0, 4, .inl (fun j => nI (s.2.1 i j)))) := by
  rcases (show i = 0 ∨ i = 1 ∨ i = 2 ∨ i = 3 by omega) with rfl | rfl | rfl | rfl <;> rfl
set_option maxRecDepth 20000 in
theorem hw_mv {i j x : Nat} (hi : i < 4) : (hc r s w c b d k t ++ Z).set (11 + i) (.inl (0, 4, .inl (upd (fun j => nI (s.2.1 i j)) j (nI x)))) = hc r (s.1, up2 s.2.1 i j x, s.2.2) w c b d k t ++ Z := by
  rw [up_i]
  rcases (show i = 0 ∨ i = 1 ∨ i = 2 ∨ i = 3 by omega) with rfl | rfl | rfl | rfl <;> rfl
set_option maxRecDepth 20000 in
theorem hg_mv {j : Nat} (hj : j < 4) : (if j < 4 then some (12 + j) else none : Option Nat) = some (11 + j + 1) := by rw [if_pos hj]; congr 1; omega
set_option maxRecDepth 20000 in
theorem hr_sh {i : Nat} (hi : i < 6) : (hc r s w c b d k t ++ Z)[17 + i]? = some (.inl (1, 4, .inr (.inl (fun j => lN (w.1 i j))))) := by
  rcases (show i = 0 ∨ i = 1 ∨ i = 2 ∨ i = 3 ∨ i = 4 ∨ i = 5 by omega) with rfl | rfl | rfl | rfl | rfl | rfl <;> rfl
set_option maxRecDepth 20000 in
theorem hw_sh {i j x : Nat} (hi : i < 6) : (hc r s w c b d k t ++ Z).set (17 + i) (.inl (1, 4, .inr (.inl (vp_updL (fun j => lN (w.1 i j)) j (lN x))))) = hc r s (up2 w.1 i j x, w.2.1, w.2.2.1, w.2.2.2.1, w.2.2.2.2.1, w.2.2.2.2.2) c b d k t ++ Z := by
  rw [up_l]
  rcases (show i = 0 ∨ i = 1 ∨ i = 2 ∨ i = 3 ∨ i = 4 ∨ i = 5 by omega) with rfl | rfl | rfl | rfl | rfl | rfl <;> rfl
set_option maxRecDepth 20000 in
theorem hg_sh {j : Nat} (hj : j < 6) : (if j < 6 then some (18 + j) else none : Option Nat) = some (17 + j + 1) := by rw [if_pos hj]; congr 1; omega
set_option maxRecDepth 20000 in
theorem hr_fr {i : Nat} (hi : i < 6) : (hc r s w c b d k t ++ Z)[24 + i]? = some (.inl (1, 4, .inr (.inl (fun j => lN (w.2.1 i j))))) := by
  rcases (show i = 0 ∨ i = 1 ∨ i = 2 ∨ i = 3 ∨ i = 4 ∨ i = 5 by omega) with rfl | rfl | rfl | rfl | rfl | rfl <;> rfl
set_option maxRecDepth 20000 in
theorem hw_fr {i j x : Nat} (hi : i < 6) : (hc r s w c b d k t ++ Z).set (24 + i) (.inl (1, 4, .inr (.inl (vp_updL (fun j => lN (w.2.1 i j)) j (lN x))))) = hc r s (w.1, up2 w.2.1 i j x, w.2.2.1, w.2.2.2.1, w.2.2.2.2.1, w.2.2.2.2.2) c b d k t ++ Z := by
  rw [up_l]
  rcases (show i = 0 ∨ i = 1 ∨ i = 2 ∨ i = 3 ∨ i = 4 ∨ i = 5 by omega) with rfl | rfl | rfl | rfl | rfl | rfl <;> rfl
set_option maxRecDepth 20000 in
theorem hg_fr {j : Nat} (hj : j < 6) : (if j < 6 then some (25 + j) else none : Option Nat) = some (24 + j + 1) := by rw [if_pos hj]; congr 1; omega
set_option maxRecDepth 20000 in
theorem hr_le {i : Nat} (hi : i < 7) : (hc r s w c b d k t ++ Z)[31 + i]? = some (.inl (1, 4, .inr (.inl (fun j => lN (w.2.2.1 i j))))) := by
  rcases (show i = 0 ∨ i = 1 ∨ i = 2 ∨ i = 3 ∨ i = 4 ∨ i = 5 ∨ i = 6 by omega) with rfl | rfl | rfl | rfl | rfl | rfl | rfl <;> rfl
set_option maxRecDepth 20000 in
theorem hw_le {i j x : Nat} (hi : i < 7) : (hc r s w c b d k t ++ Z).set (31 + i) (.inl (1, 4, .inr (.inl (vp_updL (fun j => lN (w.2.2.1 i j)) j (lN x))))) = hc r s (w.1, w.2.1, up2 w.2.2.1 i j x, w.2.2.2.1, w.2.2.2.2.1, w.2.2.2.2.2) c b d k t ++ Z := by
  rw [up_l]
  rcases (show i = 0 ∨ i = 1 ∨ i = 2 ∨ i = 3 ∨ i = 4 ∨ i = 5 ∨ i = 6 by omega) with rfl | rfl | rfl | rfl | rfl | rfl | rfl <;> rfl
set_option maxRecDepth 20000 in
theorem hg_le {j : Nat} (hj : j < 7) : (if j < 7 then some (32 + j) else none : Option Nat) = some (31 + j + 1) := by rw [if_pos hj]; congr 1; omega
set_option maxRecDepth 20000 in
theorem hr_up {i : Nat} (hi : i < 7) : (hc r s w c b d k t ++ Z)[39 + i]? = some (.inl (1, 4, .inr (.inl (fun j => lN (w.2.2.2.1 i j))))) := by
  rcases (show i = 0 ∨ i = 1 ∨ i = 2 ∨ i = 3 ∨ i = 4 ∨ i = 5 ∨ i = 6 by omega) with rfl | rfl | rfl | rfl | rfl | rfl | rfl <;> rfl
set_option maxRecDepth 20000 in
theorem hw_up {i j x : Nat} (hi : i < 7) : (hc r s w c b d k t ++ Z).set (39 + i) (.inl (1, 4, .inr (.inl (vp_updL (fun j => lN (w.2.2.2.1 i j)) j (lN x))))) = hc r s (w.1, w.2.1, w.2.2.1, up2 w.2.2.2.1 i j x, w.2.2.2.2.1, w.2.2.2.2.2) c b d k t ++ Z := by
  rw [up_l]
  rcases (show i = 0 ∨ i = 1 ∨ i = 2 ∨ i = 3 ∨ i = 4 ∨ i = 5 ∨ i = 6 by omega) with rfl | rfl | rfl | rfl | rfl | rfl | rfl <;> rfl
set_option maxRecDepth 20000 in
theorem hg_up {j : Nat} (hj : j < 7) : (if j < 7 then some (40 + j) else none : Option Nat) = some (39 + j + 1) := by rw [if_pos hj]; congr 1; omega
set_option maxRecDepth 20000 in
theorem hr_en {i : Nat} (hi : i < 6) : (hc r s w c b d k t ++ Z)[47 + i]? = some (.inl (1, 4, .inr (.inl (fun j => lN (w.2.2.2.2.1 i j))))) := by
  rcases (show i = 0 ∨ i = 1 ∨ i = 2 ∨ i = 3 ∨ i = 4 ∨ i = 5 by omega) with rfl | rfl | rfl | rfl | rfl | rfl <;> rfl
set_option maxRecDepth 20000 in
theorem hw_en {i j x : Nat} (hi : i < 6) : (hc r s w c b d k t ++ Z).set (47 + i) (.inl (1, 4, .inr (.inl (vp_updL (fun j => lN (w.2.2.2.2.1 i j)) j (lN x))))) = hc r s (w.1, w.2.1, w.2.2.1, w.2.2.2.1, up2 w.2.2.2.2.1 i j x, w.2.2.2.2.2) c b d k t ++ Z := by
  rw [up_l]
  rcases (show i = 0 ∨ i = 1 ∨ i = 2 ∨ i = 3 ∨ i = 4 ∨ i = 5 by omega) with rfl | rfl | rfl | rfl | rfl | rfl <;> rfl
set_option maxRecDepth 20000 in
theorem hg_en {j : Nat} (hj : j < 6) : (if j < 6 then some (48 + j) else none : Option Nat) = some (47 + j + 1) := by rw [if_pos hj]; congr 1; omega
set_option maxRecDepth 20000 in
theorem hr_csh {i : Nat} (hi : i < 6) : (hc r s w c b d k t ++ Z)[55 + i]? = some (.inl (1, 4, .inr (.inl (fun j => lN (c.1 i j))))) := by
  rcases (show i = 0 ∨ i = 1 ∨ i = 2 ∨ i = 3 ∨ i = 4 ∨ i = 5 by omega) with rfl | rfl | rfl | rfl | rfl | rfl <;> rfl
set_option maxRecDepth 20000 in
theorem hw_csh {i j x : Nat} (hi : i < 6) : (hc r s w c b d k t ++ Z).set (55 + i) (.inl (1, 4, .inr (.inl (vp_updL (fun j => lN (c.1 i j)) j (lN x))))) = hc r s w (up2 c.1 i j x, c.2.1, c.2.2.1, c.2.2.2.1, c.2.2.2.2.1, c.2.2.2.2.2) b d k t ++ Z := by
  rw [up_l]
  rcases (show i = 0 ∨ i = 1 ∨ i = 2 ∨ i = 3 ∨ i = 4 ∨ i = 5 by omega) with rfl | rfl | rfl | rfl | rfl | rfl <;> rfl
set_option maxRecDepth 20000 in
theorem hg_csh {j : Nat} (hj : j < 6) : (if j < 6 then some (56 + j) else none : Option Nat) = some (55 + j + 1) := by rw [if_pos hj]; congr 1; omega
set_option maxRecDepth 20000 in
theorem hr_cfr {i : Nat} (hi : i < 6) : (hc r s w c b d k t ++ Z)[62 + i]? = some (.inl (1, 4, .inr (.inl (fun j => lN (c.2.1 i j))))) := by
  rcases (show i = 0 ∨ i = 1 ∨ i = 2 ∨ i = 3 ∨ i = 4 ∨ i = 5 by omega) with rfl | rfl | rfl | rfl | rfl | rfl <;> rfl
set_option maxRecDepth 20000 in
theorem hw_cfr {i j x : Nat} (hi : i < 6) : (hc r s w c b d k t ++ Z).set (62 + i) (.inl (1, 4, .inr (.inl (vp_updL (fun j => lN (c.2.1 i j)) j (lN x))))) = hc r s w (c.1, up2 c.2.1 i j x, c.2.2.1, c.2.2.2.1, c.2.2.2.2.1, c.2.2.2.2.2) b d k t ++ Z := by
  rw [up_l]
  rcases (show i = 0 ∨ i = 1 ∨ i = 2 ∨ i = 3 ∨ i = 4 ∨ i = 5 by omega) with rfl | rfl | rfl | rfl | rfl | rfl <;> rfl
set_option maxRecDepth 20000 in
theorem hg_cfr {j : Nat} (hj : j < 6) : (if j < 6 then some (63 + j) else none : Option Nat) = some (62 + j + 1) := by rw [if_pos hj]; congr 1; omega
set_option maxRecDepth 20000 in
theorem hr_cle {i : Nat} (hi : i < 7) : (hc r s w c b d k t ++ Z)[69 + i]? = some (.inl (1, 4, .inr (.inl (fun j => lN (c.2.2.1 i j))))) := by
  rcases (show i = 0 ∨ i = 1 ∨ i = 2 ∨ i = 3 ∨ i = 4 ∨ i = 5 ∨ i = 6 by omega) with rfl | rfl | rfl | rfl | rfl | rfl | rfl <;> rfl
set_option maxRecDepth 20000 in
theorem hw_cle {i j x : Nat} (hi : i < 7) : (hc r s w c b d k t ++ Z).set (69 + i) (.inl (1, 4, .inr (.inl (vp_updL (fun j => lN (c.2.2.1 i j)) j (lN x))))) = hc r s w (c.1, c.2.1, up2 c.2.2.1 i j x, c.2.2.2.1, c.2.2.2.2.1, c.2.2.2.2.2) b d k t ++ Z := by
  rw [up_l]
  rcases (show i = 0 ∨ i = 1 ∨ i = 2 ∨ i = 3 ∨ i = 4 ∨ i = 5 ∨ i = 6 by omega) with rfl | rfl | rfl | rfl | rfl | rfl | rfl <;> rfl
set_option maxRecDepth 20000 in
theorem hg_cle {j : Nat} (hj : j < 7) : (if j < 7 then some (70 + j) else none : Option Nat) = some (69 + j + 1) := by rw [if_pos hj]; congr 1; omega
set_option maxRecDepth 20000 in
theorem hr_cup {i : Nat} (hi : i < 7) : (hc r s w c b d k t ++ Z)[77 + i]? = some (.inl (1, 4, .inr (.inl (fun j => lN (c.2.2.2.1 i j))))) := by
  rcases (show i = 0 ∨ i = 1 ∨ i = 2 ∨ i = 3 ∨ i = 4 ∨ i = 5 ∨ i = 6 by omega) with rfl | rfl | rfl | rfl | rfl | rfl | rfl <;> rfl
set_option maxRecDepth 20000 in
theorem hw_cup {i j x : Nat} (hi : i < 7) : (hc r s w c b d k t ++ Z).set (77 + i) (.inl (1, 4, .inr (.inl (vp_updL (fun j => lN (c.2.2.2.1 i j)) j (lN x))))) = hc r s w (c.1, c.2.1, c.2.2.1, up2 c.2.2.2.1 i j x, c.2.2.2.2.1, c.2.2.2.2.2) b d k t ++ Z := by
  rw [up_l]
  rcases (show i = 0 ∨ i = 1 ∨ i = 2 ∨ i = 3 ∨ i = 4 ∨ i = 5 ∨ i = 6 by omega) with rfl | rfl | rfl | rfl | rfl | rfl | rfl <;> rfl
set_option maxRecDepth 20000 in
theorem hg_cup {j : Nat} (hj : j < 7) : (if j < 7 then some (78 + j) else none : Option Nat) = some (77 + j + 1) := by rw [if_pos hj]; congr 1; omega
set_option maxRecDepth 20000 in
theorem hr_cen {i : Nat} (hi : i < 6) : (hc r s w c b d k t ++ Z)[85 + i]? = some (.inl (1, 4, .inr (.inl (fun j => lN (c.2.2.2.2.1 i j))))) := by
  rcases (show i = 0 ∨ i = 1 ∨ i = 2 ∨ i = 3 ∨ i = 4 ∨ i = 5 by omega) with rfl | rfl | rfl | rfl | rfl | rfl <;> rfl
set_option maxRecDepth 20000 in
theorem hw_cen {i j x : Nat} (hi : i < 6) : (hc r s w c b d k t ++ Z).set (85 + i) (.inl (1, 4, .inr (.inl (vp_updL (fun j => lN (c.2.2.2.2.1 i j)) j (lN x))))) = hc r s w (c.1, c.2.1, c.2.2.1, c.2.2.2.1, up2 c.2.2.2.2.1 i j x, c.2.2.2.2.2) b d k t ++ Z := by
  rw [up_l]
  rcases (show i = 0 ∨ i = 1 ∨ i = 2 ∨ i = 3 ∨ i = 4 ∨ i = 5 by omega) with rfl | rfl | rfl | rfl | rfl | rfl <;> rfl
set_option maxRecDepth 20000 in
theorem hg_cen {j : Nat} (hj : j < 6) : (if j < 6 then some (86 + j) else none : Option Nat) = some (85 + j + 1) := by rw [if_pos hj]; congr 1; omega
set_option maxRecDepth 20000 in
theorem hr_ru {i : Nat} (hi : i < 4) : (hc r s w c b d k t ++ Z)[171 + i]? = some (.inl (0, 16, .inl (fun j => nI (k.1 i j)))) := by
  rcases (show i = 0 ∨ i = 1 ∨ i = 2 ∨ i = 3 by omega) with rfl | rfl | rfl | rfl <;> rfl
set_option maxRecDepth 20000 in
theorem hw_ru {i j x : Nat} (hi : i < 4) : (hc r s w c b d k t ++ Z).set (171 + i) (.inl (0, 16, .inl (upd (fun j => nI (k.1 i j)) j (nI x)))) = hc r s w c b d (up2 k.1 i j x, k.2.1, k.2.2) t ++ Z := by
  rw [up_i]
  rcases (show i = 0 ∨ i = 1 ∨ i = 2 ∨ i = 3 by omega) with rfl | rfl | rfl | rfl <;> rfl
set_option maxRecDepth 20000 in
theorem hg_ru {j : Nat} (hj : j < 4) : (if j < 4 then some (172 + j) else none : Option Nat) = some (171 + j + 1) := by rw [if_pos hj]; congr 1; omega
set_option maxRecDepth 20000 in
theorem hr_lf {i : Nat} (hi : i < 4) : (hc r s w c b d k t ++ Z)[176 + i]? = some (.inl (0, 4, .inl (fun j => nI (k.2.1 i j)))) := by
  rcases (show i = 0 ∨ i = 1 ∨ i = 2 ∨ i = 3 by omega) with rfl | rfl | rfl | rfl <;> rfl
set_option maxRecDepth 20000 in
theorem hw_lf {i j x : Nat} (hi : i < 4) : (hc r s w c b d k t ++ Z).set (176 + i) (.inl (0, 4, .inl (upd (fun j => nI (k.2.1 i j)) j (nI x)))) = hc r s w c b d (k.1, up2 k.2.1 i j x, k.2.2) t ++ Z := by
  rw [up_i]
  rcases (show i = 0 ∨ i = 1 ∨ i = 2 ∨ i = 3 by omega) with rfl | rfl | rfl | rfl <;> rfl
set_option maxRecDepth 20000 in
theorem hg_lf {j : Nat} (hj : j < 4) : (if j < 4 then some (177 + j) else none : Option Nat) = some (176 + j + 1) := by rw [if_pos hj]; congr 1; omega
set_option maxRecDepth 20000 in
theorem hr_su {i : Nat} (hi : i < 4) : (hc r s w c b d k t ++ Z)[182 + i]? = some (.inl (1, 36, .inr (.inl (fun j => lN (t.1 i j))))) := by
  rcases (show i = 0 ∨ i = 1 ∨ i = 2 ∨ i = 3 by omega) with rfl | rfl | rfl | rfl <;> rfl
set_option maxRecDepth 20000 in
theorem hw_su {i j x : Nat} (hi : i < 4) : (hc r s w c b d k t ++ Z).set (182 + i) (.inl (1, 36, .inr (.inl (vp_updL (fun j => lN (t.1 i j)) j (lN x))))) = hc r s w c b d k (up2 t.1 i j x, t.2.1, t.2.2.1, t.2.2.2.1, t.2.2.2.2.1, t.2.2.2.2.2.1, t.2.2.2.2.2.2.1, t.2.2.2.2.2.2.2) ++ Z := by
  rw [up_l]
  rcases (show i = 0 ∨ i = 1 ∨ i = 2 ∨ i = 3 by omega) with rfl | rfl | rfl | rfl <;> rfl
set_option maxRecDepth 20000 in
theorem hg_su {j : Nat} (hj : j < 4) : (if j < 4 then some (183 + j) else none : Option Nat) = some (182 + j + 1) := by rw [if_pos hj]; congr 1; omega
set_option maxRecDepth 20000 in
theorem hr_ct {i : Nat} (hi : i < 4) : (hc r s w c b d k t ++ Z)[187 + i]? = some (.inl (1, 36, .inr (.inl (fun j => lN (t.2.1 i j))))) := by
  rcases (show i = 0 ∨ i = 1 ∨ i = 2 ∨ i = 3 by omega) with rfl | rfl | rfl | rfl <;> rfl
set_option maxRecDepth 20000 in
theorem hw_ct {i j x : Nat} (hi : i < 4) : (hc r s w c b d k t ++ Z).set (187 + i) (.inl (1, 36, .inr (.inl (vp_updL (fun j => lN (t.2.1 i j)) j (lN x))))) = hc r s w c b d k (t.1, up2 t.2.1 i j x, t.2.2.1, t.2.2.2.1, t.2.2.2.2.1, t.2.2.2.2.2.1, t.2.2.2.2.2.2.1, t.2.2.2.2.2.2.2) ++ Z := by
  rw [up_l]
  rcases (show i = 0 ∨ i = 1 ∨ i = 2 ∨ i = 3 by omega) with rfl | rfl | rfl | rfl <;> rfl
set_option maxRecDepth 20000 in
theorem hg_ct {j : Nat} (hj : j < 4) : (if j < 4 then some (188 + j) else none : Option Nat) = some (187 + j + 1) := by rw [if_pos hj]; congr 1; omega
set_option maxRecDepth 20000 in
theorem hr_be {i : Nat} (hi : i < 4) : (hc r s w c b d k t ++ Z)[192 + i]? = some (.inl (1, 36, .inr (.inl (fun j => lN (t.2.2.1 i j))))) := by
  rcases (show i = 0 ∨ i = 1 ∨ i = 2 ∨ i = 3 by omega) with rfl | rfl | rfl | rfl <;> rfl
set_option maxRecDepth 20000 in
theorem hw_be {i j x : Nat} (hi : i < 4) : (hc r s w c b d k t ++ Z).set (192 + i) (.inl (1, 36, .inr (.inl (vp_updL (fun j => lN (t.2.2.1 i j)) j (lN x))))) = hc r s w c b d k (t.1, t.2.1, up2 t.2.2.1 i j x, t.2.2.2.1, t.2.2.2.2.1, t.2.2.2.2.2.1, t.2.2.2.2.2.2.1, t.2.2.2.2.2.2.2) ++ Z := by
  rw [up_l]
  rcases (show i = 0 ∨ i = 1 ∨ i = 2 ∨ i = 3 by omega) with rfl | rfl | rfl | rfl <;> rfl
set_option maxRecDepth 20000 in
theorem hg_be {j : Nat} (hj : j < 4) : (if j < 4 then some (193 + j) else none : Option Nat) = some (192 + j + 1) := by rw [if_pos hj]; congr 1; omega
set_option maxRecDepth 20000 in
theorem hr_ha {i : Nat} (hi : i < 4) : (hc r s w c b d k t ++ Z)[197 + i]? = some (.inl (1, 36, .inr (.inl (fun j => lN (t.2.2.2.1 i j))))) := by
  rcases (show i = 0 ∨ i = 1 ∨ i = 2 ∨ i = 3 by omega) with rfl | rfl | rfl | rfl <;> rfl
set_option maxRecDepth 20000 in
theorem hw_ha {i j x : Nat} (hi : i < 4) : (hc r s w c b d k t ++ Z).set (197 + i) (.inl (1, 36, .inr (.inl (vp_updL (fun j => lN (t.2.2.2.1 i j)) j (lN x))))) = hc r s w c b d k (t.1, t.2.1, t.2.2.1, up2 t.2.2.2.1 i j x, t.2.2.2.2.1, t.2.2.2.2.2.1, t.2.2.2.2.2.2.1, t.2.2.2.2.2.2.2) ++ Z := by
  rw [up_l]
  rcases (show i = 0 ∨ i = 1 ∨ i = 2 ∨ i = 3 by omega) with rfl | rfl | rfl | rfl <;> rfl
set_option maxRecDepth 20000 in
theorem hg_ha {j : Nat} (hj : j < 4) : (if j < 4 then some (198 + j) else none : Option Nat) = some (197 + j + 1) := by rw [if_pos hj]; congr 1; omega
set_option maxRecDepth 20000 in
theorem hg_ends {j : Nat} (hj : j < 24) : (if j < 24 then some (97 + 3 * j) else none : Option Nat) = some (93 + 3 * (j + 1) + 1) := by rw [if_pos hj]; congr 1; omega
set_option maxRecDepth 20000 in
theorem hr_lo {i : Nat} (hi : i < 25) : (hc r s w c b d k t ++ Z)[93 + 3 * i]? = some (.inr (5, [.ref (94 + 3 * i + 1), .ref (95 + 3 * i + 1), .int (nI (b.1 i).2.2)])) := by
  rcases (show i = 0 ∨ i = 1 ∨ i = 2 ∨ i = 3 ∨ i = 4 ∨ i = 5 ∨ i = 6 ∨ i = 7 ∨ i = 8 ∨ i = 9 ∨ i = 10 ∨ i = 11 ∨ i = 12 ∨ i = 13 ∨ i = 14 ∨ i = 15 ∨ i = 16 ∨ i = 17 ∨ i = 18 ∨ i = 19 ∨ i = 20 ∨ i = 21 ∨ i = 22 ∨ i = 23 ∨ i = 24 by omega) with rfl | rfl | rfl | rfl | rfl | rfl | rfl | rfl | rfl | rfl | rfl | rfl | rfl | rfl | rfl | rfl | rfl | rfl | rfl | rfl | rfl | rfl | rfl | rfl | rfl <;> rfl
set_option maxRecDepth 20000 in
theorem hr_lw {i : Nat} (hi : i < 25) : (hc r s w c b d k t ++ Z)[94 + 3 * i]? = some (.inl (1, 10, .inr (.inl (fun j => lN ((b.1 i).1 j))))) := by
  rcases (show i = 0 ∨ i = 1 ∨ i = 2 ∨ i = 3 ∨ i = 4 ∨ i = 5 ∨ i = 6 ∨ i = 7 ∨ i = 8 ∨ i = 9 ∨ i = 10 ∨ i = 11 ∨ i = 12 ∨ i = 13 ∨ i = 14 ∨ i = 15 ∨ i = 16 ∨ i = 17 ∨ i = 18 ∨ i = 19 ∨ i = 20 ∨ i = 21 ∨ i = 22 ∨ i = 23 ∨ i = 24 by omega) with rfl | rfl | rfl | rfl | rfl | rfl | rfl | rfl | rfl | rfl | rfl | rfl | rfl | rfl | rfl | rfl | rfl | rfl | rfl | rfl | rfl | rfl | rfl | rfl | rfl <;> rfl
set_option maxRecDepth 20000 in
theorem hr_lt {i : Nat} (hi : i < 25) : (hc r s w c b d k t ++ Z)[95 + 3 * i]? = some (.inl (0, 10, .inl (fun j => nI ((b.1 i).2.1 j)))) := by
  rcases (show i = 0 ∨ i = 1 ∨ i = 2 ∨ i = 3 ∨ i = 4 ∨ i = 5 ∨ i = 6 ∨ i = 7 ∨ i = 8 ∨ i = 9 ∨ i = 10 ∨ i = 11 ∨ i = 12 ∨ i = 13 ∨ i = 14 ∨ i = 15 ∨ i = 16 ∨ i = 17 ∨ i = 18 ∨ i = 19 ∨ i = 20 ∨ i = 21 ∨ i = 22 ∨ i = 23 ∨ i = 24 by omega) with rfl | rfl | rfl | rfl | rfl | rfl | rfl | rfl | rfl | rfl | rfl | rfl | rfl | rfl | rfl | rfl | rfl | rfl | rfl | rfl | rfl | rfl | rfl | rfl | rfl <;> rfl
set_option maxRecDepth 20000 in
theorem hw_lo {i v : Nat} (hi : i < 25) : (hc r s w c b d k t ++ Z).set (93 + 3 * i) (.inr (5, [.ref (94 + 3 * i + 1), .ref (95 + 3 * i + 1), .int (nI v)])) = hc r s w c (va_up b.1 i ((b.1 i).1, (b.1 i).2.1, v), b.2) d k t ++ Z := by
  rcases (show i = 0 ∨ i = 1 ∨ i = 2 ∨ i = 3 ∨ i = 4 ∨ i = 5 ∨ i = 6 ∨ i = 7 ∨ i = 8 ∨ i = 9 ∨ i = 10 ∨ i = 11 ∨ i = 12 ∨ i = 13 ∨ i = 14 ∨ i = 15 ∨ i = 16 ∨ i = 17 ∨ i = 18 ∨ i = 19 ∨ i = 20 ∨ i = 21 ∨ i = 22 ∨ i = 23 ∨ i = 24 by omega) with rfl | rfl | rfl | rfl | rfl | rfl | rfl | rfl | rfl | rfl | rfl | rfl | rfl | rfl | rfl | rfl | rfl | rfl | rfl | rfl | rfl | rfl | rfl | rfl | rfl <;> rfl
set_option maxRecDepth 20000 in
theorem hw_lw {i j x : Nat} (hi : i < 25) : (hc r s w c b d k t ++ Z).set (94 + 3 * i) (.inl (1, 10, .inr (.inl (vp_updL (fun j => lN ((b.1 i).1 j)) j (lN x))))) = hc r s w c (va_up b.1 i (va_up (b.1 i).1 j x, (b.1 i).2.1, (b.1 i).2.2), b.2) d k t ++ Z := by
  rw [up_l]
  rcases (show i = 0 ∨ i = 1 ∨ i = 2 ∨ i = 3 ∨ i = 4 ∨ i = 5 ∨ i = 6 ∨ i = 7 ∨ i = 8 ∨ i = 9 ∨ i = 10 ∨ i = 11 ∨ i = 12 ∨ i = 13 ∨ i = 14 ∨ i = 15 ∨ i = 16 ∨ i = 17 ∨ i = 18 ∨ i = 19 ∨ i = 20 ∨ i = 21 ∨ i = 22 ∨ i = 23 ∨ i = 24 by omega) with rfl | rfl | rfl | rfl | rfl | rfl | rfl | rfl | rfl | rfl | rfl | rfl | rfl | rfl | rfl | rfl | rfl | rfl | rfl | rfl | rfl | rfl | rfl | rfl | rfl <;> rfl
set_option maxRecDepth 20000 in
theorem hw_lt {i j x : Nat} (hi : i < 25) : (hc r s w c b d k t ++ Z).set (95 + 3 * i) (.inl (0, 10, .inl (upd (fun j => nI ((b.1 i).2.1 j)) j (nI x)))) = hc r s w c (va_up b.1 i ((b.1 i).1, va_up (b.1 i).2.1 j x, (b.1 i).2.2), b.2) d k t ++ Z := by
  rw [up_i]
  rcases (show i = 0 ∨ i = 1 ∨ i = 2 ∨ i = 3 ∨ i = 4 ∨ i = 5 ∨ i = 6 ∨ i = 7 ∨ i = 8 ∨ i = 9 ∨ i = 10 ∨ i = 11 ∨ i = 12 ∨ i = 13 ∨ i = 14 ∨ i = 15 ∨ i = 16 ∨ i = 17 ∨ i = 18 ∨ i = 19 ∨ i = 20 ∨ i = 21 ∨ i = 22 ∨ i = 23 ∨ i = 24 by omega) with rfl | rfl | rfl | rfl | rfl | rfl | rfl | rfl | rfl | rfl | rfl | rfl | rfl | rfl | rfl | rfl | rfl | rfl | rfl | rfl | rfl | rfl | rfl | rfl | rfl <;> rfl
set_option maxRecDepth 20000 in
theorem hs_rl {v : Nat} : (hc r s w c b d k t ++ Z).set 1 (.inr (1, [.ref 3, .ref 4, .int (nI v)])) = hc (r.1, r.2.1, v) s w c b d k t ++ Z := rfl
set_option maxRecDepth 20000 in
theorem hs_rs {v : Nat → Int32} : (hc r s w c b d k t ++ Z).set 2 (.inl (0, 6, .inl v)) = hc (v, r.2.1, r.2.2) s w c b d k t ++ Z := rfl
set_option maxRecDepth 20000 in
theorem hs_rh {v : Nat → Int32} : (hc r s w c b d k t ++ Z).set 3 (.inl (0, 6, .inl v)) = hc (r.1, v, r.2.2) s w c b d k t ++ Z := rfl
set_option maxRecDepth 20000 in
theorem hs_sq {v : Nat} : (hc r s w c b d k t ++ Z).set 4 (.inr (2, [.ref 6, .ref 11, .int (nI v)])) = hc r (s.1, s.2.1, v) w c b d k t ++ Z := rfl
set_option maxRecDepth 20000 in
theorem hs_wk {v : Nat} : (hc r s w c b d k t ++ Z).set 15 (.inr (3, [.ref 2, .ref 5, .int (nI 16), .ref 17, .ref 24, .ref 31, .ref 39, .ref 47, .int (nI v)])) = hc r s (w.1, w.2.1, w.2.2.1, w.2.2.2.1, w.2.2.2.2.1, v) c b d k t ++ Z := rfl
set_option maxRecDepth 20000 in
theorem hs_ck {v : Nat} : (hc r s w c b d k t ++ Z).set 53 (.inr (3, [.ref 2, .ref 5, .int (nI 1), .ref 55, .ref 62, .ref 69, .ref 77, .ref 85, .int (nI v)])) = hc r s w (c.1, c.2.1, c.2.2.1, c.2.2.2.1, c.2.2.2.2.1, v) b d k t ++ Z := rfl
set_option maxRecDepth 20000 in
theorem hs_bk {v : Nat} : (hc r s w c b d k t ++ Z).set 91 (.inr (4, [.ref 2, .ref 5, .ref 16, .ref 93, .ref 94, .int (nI v)])) = hc r s w c (b.1, v) d k t ++ Z := rfl
set_option maxRecDepth 20000 in
theorem hs_d {x1 x2 x3 x4 x5 x6 : Nat} : (hc r s w c b d k t ++ Z).set 168 (.inr (6, [.ref 2, .ref 5, .ref 16, .long (lN x1), .int (nI x2), .int (nI x3), .long (lN x4), .int (nI x5), .int (nI x6)])) = hc r s w c b (x1, x2, x3, x4, x5, x6) k t ++ Z := rfl
set_option maxRecDepth 20000 in
theorem hs_kc {v : Nat} : (hc r s w c b d k t ++ Z).set 169 (.inr (7, [.ref 171, .ref 176, .int (nI v)])) = hc r s w c b d (k.1, k.2.1, v) t ++ Z := rfl
set_option maxRecDepth 20000 in
theorem hs_t {v x : Nat} : (hc r s w c b d k t ++ Z).set 180 (.inr (8, [.ref 2, .ref 170, .ref 182, .ref 187, .ref 192, .ref 197, .ref 202, .ref 203, .int (nI v), .int (nI x)])) = hc r s w c b d k (t.1, t.2.1, t.2.2.1, t.2.2.2.1, t.2.2.2.2.1, t.2.2.2.2.2.1, v, x) ++ Z := rfl
set_option maxRecDepth 20000 in
theorem hs_twk {j x : Nat} : (hc r s w c b d k t ++ Z).set 201 (.inl (0, 7, .inl (upd (fun j => nI (t.2.2.2.2.1 j)) j (nI x)))) = hc r s w c b d k (t.1, t.2.1, t.2.2.1, t.2.2.2.1, va_up t.2.2.2.2.1 j x, t.2.2.2.2.2.1, t.2.2.2.2.2.2.1, t.2.2.2.2.2.2.2) ++ Z := by rw [up_i]; rfl
set_option maxRecDepth 20000 in
theorem hs_twp {j x : Nat} : (hc r s w c b d k t ++ Z).set 202 (.inl (0, 7, .inl (upd (fun j => nI (t.2.2.2.2.2.1 j)) j (nI x)))) = hc r s w c b d k (t.1, t.2.1, t.2.2.1, t.2.2.2.1, t.2.2.2.2.1, va_up t.2.2.2.2.2.1 j x, t.2.2.2.2.2.2.1, t.2.2.2.2.2.2.2) ++ Z := by rw [up_i]; rfl
variable {ms mk : hA} {mp : hP} {mw : Nat → Int32} {mc : hC} {md : Nat × (Nat → Int32)} {mt : hF} {me : hE}
set_option maxRecDepth 20000 in
theorem mq_203 : (hc r s w c b d k t ++ hm ms mk mp mw mc md mt me)[203]? = some (.inr (9, [.int (nI ms.1), .ref 205, .ref 206, .int (nI mk.1), .ref 207, .ref 208, .int (nI mp.1), .ref 209, .ref 210, .int (nI mc.1), .int (nI md.1), .ref 211, .long (lN mc.2.1), .int (nI mc.2.2.1), .ref 212, .ref 213, .ref 214, .int (nI mc.2.2.2.2.2.2.1), .ref 215, .ref 216, .ref 217, .ref 218, .ref 219, .ref 220, .ref 221, .ref 222, .ref 223])) := rfl
set_option maxRecDepth 20000 in
theorem mq_204 : (hc r s w c b d k t ++ hm ms mk mp mw mc md mt me)[204]? = some (.inl (0, 36, .inl (fun j => nI (ms.2.1 j)))) := rfl
set_option maxRecDepth 20000 in
theorem mq_205 : (hc r s w c b d k t ++ hm ms mk mp mw mc md mt me)[205]? = some (.inl (0, 16, .inl (fun j => nI (ms.2.2 j)))) := rfl
set_option maxRecDepth 20000 in
theorem mq_206 : (hc r s w c b d k t ++ hm ms mk mp mw mc md mt me)[206]? = some (.inl (0, 64, .inl (fun j => nI (mk.2.1 j)))) := rfl
set_option maxRecDepth 20000 in
theorem mq_207 : (hc r s w c b d k t ++ hm ms mk mp mw mc md mt me)[207]? = some (.inl (0, 16, .inl (fun j => nI (mk.2.2 j)))) := rfl
set_option maxRecDepth 20000 in
theorem mq_208 : (hc r s w c b d k t ++ hm ms mk mp mw mc md mt me)[208]? = some (.inl (0, 6, .inl mp.2.1)) := rfl
set_option maxRecDepth 20000 in
theorem mq_209 : (hc r s w c b d k t ++ hm ms mk mp mw mc md mt me)[209]? = some (.inl (0, 6, .inl mp.2.2)) := rfl
set_option maxRecDepth 20000 in
theorem mq_210 : (hc r s w c b d k t ++ hm ms mk mp mw mc md mt me)[210]? = some (.inl (0, 7, .inl mw)) := rfl
set_option maxRecDepth 20000 in
theorem mq_211 : (hc r s w c b d k t ++ hm ms mk mp mw mc md mt me)[211]? = some (.inl (1, 24, .inr (.inl (fun j => lN (mc.2.2.2.1 j))))) := rfl
set_option maxRecDepth 20000 in
theorem mq_212 : (hc r s w c b d k t ++ hm ms mk mp mw mc md mt me)[212]? = some (.inl (1, 24, .inr (.inl (fun j => lN (mc.2.2.2.2.1 j))))) := rfl
set_option maxRecDepth 20000 in
theorem mq_213 : (hc r s w c b d k t ++ hm ms mk mp mw mc md mt me)[213]? = some (.inl (1, 96, .inr (.inl (fun j => lN (mc.2.2.2.2.2.1 j))))) := rfl
set_option maxRecDepth 20000 in
theorem mq_214 : (hc r s w c b d k t ++ hm ms mk mp mw mc md mt me)[214]? = some (.inl (1, 11, .inr (.inl (fun j => lN (mc.2.2.2.2.2.2.2.1 j))))) := rfl
set_option maxRecDepth 20000 in
theorem mq_215 : (hc r s w c b d k t ++ hm ms mk mp mw mc md mt me)[215]? = some (.inl (0, 66, .inl mc.2.2.2.2.2.2.2.2)) := rfl
set_option maxRecDepth 20000 in
theorem mq_216 : (hc r s w c b d k t ++ hm ms mk mp mw mc md mt me)[216]? = some (.inl (0, 6, .inl md.2)) := rfl
set_option maxRecDepth 20000 in
theorem mq_217 : (hc r s w c b d k t ++ hm ms mk mp mw mc md mt me)[217]? = some (.inl (1, 144, .inr (.inl (fun j => lN (mt.1 j))))) := rfl
set_option maxRecDepth 20000 in
theorem mq_218 : (hc r s w c b d k t ++ hm ms mk mp mw mc md mt me)[218]? = some (.inl (1, 144, .inr (.inl (fun j => lN (mt.2.1 j))))) := rfl
set_option maxRecDepth 20000 in
theorem mq_219 : (hc r s w c b d k t ++ hm ms mk mp mw mc md mt me)[219]? = some (.inl (1, 144, .inr (.inl (fun j => lN (mt.2.2 j))))) := rfl
set_option maxRecDepth 20000 in
theorem mq_220 : (hc r s w c b d k t ++ hm ms mk mp mw mc md mt me)[220]? = some (.inl (0, 12, .inl me.1)) := rfl
set_option maxRecDepth 20000 in
theorem mq_221 : (hc r s w c b d k t ++ hm ms mk mp mw mc md mt me)[221]? = some (.inl (0, 12, .inl me.2.1)) := rfl
set_option maxRecDepth 20000 in
theorem mq_222 : (hc r s w c b d k t ++ hm ms mk mp mw mc md mt me)[222]? = some (.inl (0, 12, .inl me.2.2)) := rfl
set_option maxRecDepth 20000 in
theorem mo_set {v0 v1 v2 v7 x3 x4 x5 x6 : Nat} : (hc r s w c b d k t ++ hm ms mk mp mw mc md mt me).set 203 (.inr (9, [.int (nI v0), .ref 205, .ref 206, .int (nI v1), .ref 207, .ref 208, .int (nI v2), .ref 209, .ref 210, .int (nI x3), .int (nI x4), .ref 211, .long (lN x5), .int (nI x6), .ref 212, .ref 213, .ref 214, .int (nI v7), .ref 215, .ref 216, .ref 217, .ref 218, .ref 219, .ref 220, .ref 221, .ref 222, .ref 223])) = hc r s w c b d k t ++ hm (v0, ms.2) (v1, mk.2) (v2, mp.2) mw (x3, x5, x6, mc.2.2.2.1, mc.2.2.2.2.1, mc.2.2.2.2.2.1, v7, mc.2.2.2.2.2.2.2) (x4, md.2) mt me := rfl
set_option maxRecDepth 20000 in
theorem ma_weights {j x : Nat} : (hc r s w c b d k t ++ hm ms mk mp mw mc md mt me).set 204 (.inl (0, 36, .inl (upd (fun j => nI (ms.2.1 j)) j (nI x)))) = hc r s w c b d k t ++ hm (ms.1, va_up ms.2.1 j x, ms.2.2) mk mp mw mc md mt me := by rw [up_i]; rfl
set_option maxRecDepth 20000 in
theorem ma_moves {j x : Nat} : (hc r s w c b d k t ++ hm ms mk mp mw mc md mt me).set 205 (.inl (0, 16, .inl (upd (fun j => nI (ms.2.2 j)) j (nI x)))) = hc r s w c b d k t ++ hm (ms.1, ms.2.1, va_up ms.2.2 j x) mk mp mw mc md mt me := by rw [up_i]; rfl
set_option maxRecDepth 20000 in
theorem ma_rules {j x : Nat} : (hc r s w c b d k t ++ hm ms mk mp mw mc md mt me).set 206 (.inl (0, 64, .inl (upd (fun j => nI (mk.2.1 j)) j (nI x)))) = hc r s w c b d k t ++ hm ms (mk.1, va_up mk.2.1 j x, mk.2.2) mp mw mc md mt me := by rw [up_i]; rfl
set_option maxRecDepth 20000 in
theorem ma_leaves {j x : Nat} : (hc r s w c b d k t ++ hm ms mk mp mw mc md mt me).set 207 (.inl (0, 16, .inl (upd (fun j => nI (mk.2.2 j)) j (nI x)))) = hc r s w c b d k t ++ hm ms (mk.1, mk.2.1, va_up mk.2.2 j x) mp mw mc md mt me := by rw [up_i]; rfl
set_option maxRecDepth 20000 in
theorem ma_signs {f : Nat → Int32} : (hc r s w c b d k t ++ hm ms mk mp mw mc md mt me).set 208 (.inl (0, 6, .inl f)) = hc r s w c b d k t ++ hm ms mk (mp.1, f, mp.2.2) mw mc md mt me := rfl
set_option maxRecDepth 20000 in
theorem ma_held {f : Nat → Int32} : (hc r s w c b d k t ++ hm ms mk mp mw mc md mt me).set 209 (.inl (0, 6, .inl f)) = hc r s w c b d k t ++ hm ms mk (mp.1, mp.2.1, f) mw mc md mt me := rfl
set_option maxRecDepth 20000 in
theorem ma_way {f : Nat → Int32} : (hc r s w c b d k t ++ hm ms mk mp mw mc md mt me).set 210 (.inl (0, 7, .inl f)) = hc r s w c b d k t ++ hm ms mk mp f mc md mt me := rfl
set_option maxRecDepth 20000 in
theorem ma_shares {j x : Nat} : (hc r s w c b d k t ++ hm ms mk mp mw mc md mt me).set 211 (.inl (1, 24, .inr (.inl (vp_updL (fun j => lN (mc.2.2.2.1 j)) j (lN x))))) = hc r s w c b d k t ++ hm ms mk mp mw (mc.1, mc.2.1, mc.2.2.1, va_up mc.2.2.2.1 j x, mc.2.2.2.2.1, mc.2.2.2.2.2.1, mc.2.2.2.2.2.2.1, mc.2.2.2.2.2.2.2.1, mc.2.2.2.2.2.2.2.2) md mt me := by rw [up_l]; rfl
set_option maxRecDepth 20000 in
theorem ma_begins {j x : Nat} : (hc r s w c b d k t ++ hm ms mk mp mw mc md mt me).set 212 (.inl (1, 24, .inr (.inl (vp_updL (fun j => lN (mc.2.2.2.2.1 j)) j (lN x))))) = hc r s w c b d k t ++ hm ms mk mp mw (mc.1, mc.2.1, mc.2.2.1, mc.2.2.2.1, va_up mc.2.2.2.2.1 j x, mc.2.2.2.2.2.1, mc.2.2.2.2.2.2.1, mc.2.2.2.2.2.2.2.1, mc.2.2.2.2.2.2.2.2) md mt me := by rw [up_l]; rfl
set_option maxRecDepth 20000 in
theorem ma_pairs {j x : Nat} : (hc r s w c b d k t ++ hm ms mk mp mw mc md mt me).set 213 (.inl (1, 96, .inr (.inl (vp_updL (fun j => lN (mc.2.2.2.2.2.1 j)) j (lN x))))) = hc r s w c b d k t ++ hm ms mk mp mw (mc.1, mc.2.1, mc.2.2.1, mc.2.2.2.1, mc.2.2.2.2.1, va_up mc.2.2.2.2.2.1 j x, mc.2.2.2.2.2.2.1, mc.2.2.2.2.2.2.2.1, mc.2.2.2.2.2.2.2.2) md mt me := by rw [up_l]; rfl
set_option maxRecDepth 20000 in
theorem ma_keptWeight {j x : Nat} : (hc r s w c b d k t ++ hm ms mk mp mw mc md mt me).set 214 (.inl (1, 11, .inr (.inl (vp_updL (fun j => lN (mc.2.2.2.2.2.2.2.1 j)) j (lN x))))) = hc r s w c b d k t ++ hm ms mk mp mw (mc.1, mc.2.1, mc.2.2.1, mc.2.2.2.1, mc.2.2.2.2.1, mc.2.2.2.2.2.1, mc.2.2.2.2.2.2.1, va_up mc.2.2.2.2.2.2.2.1 j x, mc.2.2.2.2.2.2.2.2) md mt me := by rw [up_l]; rfl
set_option maxRecDepth 20000 in
theorem ma_keptWay {f : Nat → Int32} : (hc r s w c b d k t ++ hm ms mk mp mw mc md mt me).set 215 (.inl (0, 66, .inl f)) = hc r s w c b d k t ++ hm ms mk mp mw (mc.1, mc.2.1, mc.2.2.1, mc.2.2.2.1, mc.2.2.2.2.1, mc.2.2.2.2.2.1, mc.2.2.2.2.2.2.1, mc.2.2.2.2.2.2.2.1, f) md mt me := rfl
set_option maxRecDepth 20000 in
theorem ma_drawn {f : Nat → Int32} : (hc r s w c b d k t ++ hm ms mk mp mw mc md mt me).set 216 (.inl (0, 6, .inl f)) = hc r s w c b d k t ++ hm ms mk mp mw mc (md.1, f) mt me := rfl
set_option maxRecDepth 20000 in
theorem ma_sums {j x : Nat} : (hc r s w c b d k t ++ hm ms mk mp mw mc md mt me).set 217 (.inl (1, 144, .inr (.inl (vp_updL (fun j => lN (mt.1 j)) j (lN x))))) = hc r s w c b d k t ++ hm ms mk mp mw mc md (va_up mt.1 j x, mt.2.1, mt.2.2) me := by rw [up_l]; rfl
set_option maxRecDepth 20000 in
theorem ma_counts {j x : Nat} : (hc r s w c b d k t ++ hm ms mk mp mw mc md mt me).set 218 (.inl (1, 144, .inr (.inl (vp_updL (fun j => lN (mt.2.1 j)) j (lN x))))) = hc r s w c b d k t ++ hm ms mk mp mw mc md (mt.1, va_up mt.2.1 j x, mt.2.2) me := by rw [up_l]; rfl
set_option maxRecDepth 20000 in
theorem ma_bests {j x : Nat} : (hc r s w c b d k t ++ hm ms mk mp mw mc md mt me).set 219 (.inl (1, 144, .inr (.inl (vp_updL (fun j => lN (mt.2.2 j)) j (lN x))))) = hc r s w c b d k t ++ hm ms mk mp mw mc md (mt.1, mt.2.1, va_up mt.2.2 j x) me := by rw [up_l]; rfl
set_option maxRecDepth 20000 in
theorem ma_tellA {f : Nat → Int32} : (hc r s w c b d k t ++ hm ms mk mp mw mc md mt me).set 220 (.inl (0, 12, .inl f)) = hc r s w c b d k t ++ hm ms mk mp mw mc md mt (f, me.2.1, me.2.2) := rfl
set_option maxRecDepth 20000 in
theorem ma_tellB {f : Nat → Int32} : (hc r s w c b d k t ++ hm ms mk mp mw mc md mt me).set 221 (.inl (0, 12, .inl f)) = hc r s w c b d k t ++ hm ms mk mp mw mc md mt (me.1, f, me.2.2) := rfl
set_option maxRecDepth 20000 in
theorem ma_tellK {f : Nat → Int32} : (hc r s w c b d k t ++ hm ms mk mp mw mc md mt me).set 222 (.inl (0, 12, .inl f)) = hc r s w c b d k t ++ hm ms mk mp mw mc md mt (me.1, me.2.1, f) := rfl
end HQ
