section LC
variable {E : ab_E} {l : Launch} {G : Heap → List Loc → Nat → Nat → JFrame → Prop} {m : MethodId} {cc : ByteArray} {nL : Nat} {own : String} {ini : Bool} {ret : Option FieldType} {fr lo mc ms : Nat} {Post : Option (Option Value → List ab_C → Prop)} {ce sl pc : Nat} {lv : List (Nat × Value)} {st : List Value} {h : List ab_C}
theorem lc_lt {a b : Nat} (ha : a < 2 ^ 63) (hb : b < 2 ^ 63) (h : a < b) : lg_cmp (lN a) (lN b) = -1 := by
  unfold lg_cmp
  rw [if_neg (fun q => by have := (pk_lLT hb ha).mp q; omega), if_neg (fun q => by have := (pk_lEQ ha hb).mp q; omega)]
theorem lc_eq {a : Nat} : lg_cmp (lN a) (lN a) = 0 := by
  unfold lg_cmp
  simp
theorem lc_gt {a b : Nat} (ha : a < 2 ^ 63) (hb : b < 2 ^ 63) (h : b < a) : lg_cmp (lN a) (lN b) = 1 := by
  unfold lg_cmp
  rw [if_pos ((pk_lLT hb ha).mpr h)]
theorem a_lc_eq (X : ab_X E l G m cc nL own ini ret fr lo mc ms Post) {a b : Nat} {off : Int} (tgt : Nat) (ha : a < 2 ^ 63) (hb : b < 2 ^ 63) (d1 : decode cc pc = .ok (.lcmp, 1)) (d2 : decode cc (pc + 1) = .ok (.ifCond .eq off, 3)) (ht : ((pc + 1 : Nat) : Int) + off = (tgt : Int)) (kt : a = b → ab_R E G m nL ce sl tgt lv st h) (kf : a ≠ b → ab_R E G m nL ce sl (pc + 1 + 3) lv st h) : ab_R E G m nL ce sl pc lv (.long (lN b) :: .long (lN a) :: st) h := by
  refine a_lcmp X d1 ?_
  refine a_if_eq X tgt d2 ht (fun q => kt ?_) (fun q => kf ?_)
  · rcases Nat.lt_trichotomy a b with g | g | g
    · rw [lc_lt ha hb g] at q <;> first | omega | exact absurd q (by decide)
    · subst g
      rw [lc_eq] at q <;> first | omega | exact absurd q (by decide)
    · rw [lc_gt ha hb g] at q <;> first | omega | exact absurd q (by decide)
  · rcases Nat.lt_trichotomy a b with g | g | g
    · rw [lc_lt ha hb g] at q <;> first | omega | exact absurd q (by decide)
    · subst g
      rw [lc_eq] at q <;> first | omega | exact absurd q (by decide)
    · rw [lc_gt ha hb g] at q <;> first | omega | exact absurd q (by decide)
theorem a_lc_ne (X : ab_X E l G m cc nL own ini ret fr lo mc ms Post) {a b : Nat} {off : Int} (tgt : Nat) (ha : a < 2 ^ 63) (hb : b < 2 ^ 63) (d1 : decode cc pc = .ok (.lcmp, 1)) (d2 : decode cc (pc + 1) = .ok (.ifCond .ne off, 3)) (ht : ((pc + 1 : Nat) : Int) + off = (tgt : Int)) (kt : a ≠ b → ab_R E G m nL ce sl tgt lv st h) (kf : a = b → ab_R E G m nL ce sl (pc + 1 + 3) lv st h) : ab_R E G m nL ce sl pc lv (.long (lN b) :: .long (lN a) :: st) h := by
  refine a_lcmp X d1 ?_
  refine a_if_ne X tgt d2 ht (fun q => kt ?_) (fun q => kf ?_)
  · rcases Nat.lt_trichotomy a b with g | g | g
    · rw [lc_lt ha hb g] at q <;> first | omega | exact absurd q (by decide)
    · subst g
      rw [lc_eq] at q <;> first | omega | exact absurd q (by decide)
    · rw [lc_gt ha hb g] at q <;> first | omega | exact absurd q (by decide)
  · rcases Nat.lt_trichotomy a b with g | g | g
    · rw [lc_lt ha hb g] at q <;> first | omega | exact absurd q (by decide)
    · subst g
      rw [lc_eq] at q <;> first | omega | exact absurd q (by decide)
    · rw [lc_gt ha hb g] at q <;> first | omega | exact absurd q (by decide)
theorem a_lc_lt (X : ab_X E l G m cc nL own ini ret fr lo mc ms Post) {a b : Nat} {off : Int} (tgt : Nat) (ha : a < 2 ^ 63) (hb : b < 2 ^ 63) (d1 : decode cc pc = .ok (.lcmp, 1)) (d2 : decode cc (pc + 1) = .ok (.ifCond .lt off, 3)) (ht : ((pc + 1 : Nat) : Int) + off = (tgt : Int)) (kt : a < b → ab_R E G m nL ce sl tgt lv st h) (kf : b ≤ a → ab_R E G m nL ce sl (pc + 1 + 3) lv st h) : ab_R E G m nL ce sl pc lv (.long (lN b) :: .long (lN a) :: st) h := by
  refine a_lcmp X d1 ?_
  refine a_if_lt X tgt d2 ht (fun q => kt ?_) (fun q => kf ?_)
  · rcases Nat.lt_trichotomy a b with g | g | g
    · rw [lc_lt ha hb g] at q <;> first | omega | exact absurd q (by decide)
    · subst g
      rw [lc_eq] at q <;> first | omega | exact absurd q (by decide)
    · rw [lc_gt ha hb g] at q <;> first | omega | exact absurd q (by decide)
  · rcases Nat.lt_trichotomy a b with g | g | g
    · rw [lc_lt ha hb g] at q <;> first | omega | exact absurd q (by decide)
    · subst g
      rw [lc_eq] at q <;> first | omega | exact absurd q (by decide)
    · rw [lc_gt ha hb g] at q <;> first | omega | exact absurd q (by decide)
theorem a_lc_ge (X : ab_X E l G m cc nL own ini ret fr lo mc ms Post) {a b : Nat} {off : Int} (tgt : Nat) (ha : a < 2 ^ 63) (hb : b < 2 ^ 63) (d1 : decode cc pc = .ok (.lcmp, 1)) (d2 : decode cc (pc + 1) = .ok (.ifCond .ge off, 3)) (ht : ((pc + 1 : Nat) : Int) + off = (tgt : Int)) (kt : b ≤ a → ab_R E G m nL ce sl tgt lv st h) (kf : a < b → ab_R E G m nL ce sl (pc + 1 + 3) lv st h) : ab_R E G m nL ce sl pc lv (.long (lN b) :: .long (lN a) :: st) h := by
  refine a_lcmp X d1 ?_
  refine a_if_ge X tgt d2 ht (fun q => kt ?_) (fun q => kf ?_)
  · rcases Nat.lt_trichotomy a b with g | g | g
    · rw [lc_lt ha hb g] at q <;> first | omega | exact absurd q (by decide)
    · subst g
      rw [lc_eq] at q <;> first | omega | exact absurd q (by decide)
    · rw [lc_gt ha hb g] at q <;> first | omega | exact absurd q (by decide)
  · rcases Nat.lt_trichotomy a b with g | g | g
    · rw [lc_lt ha hb g] at q <;> first | omega | exact absurd q (by decide)
    · subst g
      rw [lc_eq] at q <;> first | omega | exact absurd q (by decide)
    · rw [lc_gt ha hb g] at q <;> first | omega | exact absurd q (by decide)
theorem a_lc_gt (X : ab_X E l G m cc nL own ini ret fr lo mc ms Post) {a b : Nat} {off : Int} (tgt : Nat) (ha : a < 2 ^ 63) (hb : b < 2 ^ 63) (d1 : decode cc pc = .ok (.lcmp, 1)) (d2 : decode cc (pc + 1) = .ok (.ifCond .gt off, 3)) (ht : ((pc + 1 : Nat) : Int) + off = (tgt : Int)) (kt : b < a → ab_R E G m nL ce sl tgt lv st h) (kf : a ≤ b → ab_R E G m nL ce sl (pc + 1 + 3) lv st h) : ab_R E G m nL ce sl pc lv (.long (lN b) :: .long (lN a) :: st) h := by
  refine a_lcmp X d1 ?_
  refine a_if_gt X tgt d2 ht (fun q => kt ?_) (fun q => kf ?_)
  · rcases Nat.lt_trichotomy a b with g | g | g
    · rw [lc_lt ha hb g] at q <;> first | omega | exact absurd q (by decide)
    · subst g
      rw [lc_eq] at q <;> first | omega | exact absurd q (by decide)
    · rw [lc_gt ha hb g] at q <;> first | omega | exact absurd q (by decide)
  · rcases Nat.lt_trichotomy a b with g | g | g
    · rw [lc_lt ha hb g] at q <;> first | omega | exact absurd q (by decide)
    · subst g
      rw [lc_eq] at q <;> first | omega | exact absurd q (by decide)
    · rw [lc_gt ha hb g] at q <;> first | omega | exact absurd q (by decide)
theorem a_lc_le (X : ab_X E l G m cc nL own ini ret fr lo mc ms Post) {a b : Nat} {off : Int} (tgt : Nat) (ha : a < 2 ^ 63) (hb : b < 2 ^ 63) (d1 : decode cc pc = .ok (.lcmp, 1)) (d2 : decode cc (pc + 1) = .ok (.ifCond .le off, 3)) (ht : ((pc + 1 : Nat) : Int) + off = (tgt : Int)) (kt : a ≤ b → ab_R E G m nL ce sl tgt lv st h) (kf : b < a → ab_R E G m nL ce sl (pc + 1 + 3) lv st h) : ab_R E G m nL ce sl pc lv (.long (lN b) :: .long (lN a) :: st) h := by
  refine a_lcmp X d1 ?_
  refine a_if_le X tgt d2 ht (fun q => kt ?_) (fun q => kf ?_)
  · rcases Nat.lt_trichotomy a b with g | g | g
    · rw [lc_lt ha hb g] at q <;> first | omega | exact absurd q (by decide)
    · subst g
      rw [lc_eq] at q <;> first | omega | exact absurd q (by decide)
    · rw [lc_gt ha hb g] at q <;> first | omega | exact absurd q (by decide)
  · rcases Nat.lt_trichotomy a b with g | g | g
    · rw [lc_lt ha hb g] at q <;> first | omega | exact absurd q (by decide)
    · subst g
      rw [lc_eq] at q <;> first | omega | exact absurd q (by decide)
    · rw [lc_gt ha hb g] at q <;> first | omega | exact absurd q (by decide)
end LC
