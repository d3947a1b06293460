def ab_CL (ci : Nat) (C : String) (T : u_T) (N : Nat) (ty0 : Nat → FieldType) : Prop := classes[ci]? = some (C, T, N) ∧ (∀ w ∈ u_ws C T N, w ∈ ab_tbl) ∧ (∀ j, j < N → parseFieldDescriptor (T j).2.2.1 = some (ty0 j)) ∧ (∀ a, a < N → ∀ b, b < N → a ≠ b → (T a).2.1 ≠ (T b).2.1)
theorem ab_F_mk {own C : String} {idx ci k N : Nat} {T : u_T} {ty0 : Nat → FieldType} {fin : Bool} {ty : FieldType} (h : ab_CL ci C T N ty0) (hk : k < N) (hl : Cond.fieldLink own idx (T k).1 (T k).2.1 (T k).2.2.1 ∈ ab_tbl) (hf : (T k).2.2.2 = fin) (ht : parseFieldDescriptor (T k).2.2.1 = some ty) : ab_F own idx ci k fin ty := ⟨C, T, N, ty0, h.1, hk, h.2.1, hl, hf, ht, h.2.2.1, h.2.2.2⟩
theorem cl_H : ab_CL 0 "HiddenRows" F_H 8 t_H := ⟨rfl, List.forall_mem_cons.mpr ⟨(ab_mem (List.mem_append_right _ (List.mem_of_getElem? (i := 269) rfl)) rfl), List.forall_mem_cons.mpr ⟨(ab_mem (List.mem_append_right _ (List.mem_of_getElem? (i := 271) rfl)) rfl), List.forall_mem_cons.mpr ⟨(ab_mem (List.mem_append_right _ (List.mem_of_getElem? (i := 273) rfl)) rfl), List.forall_mem_cons.mpr ⟨(ab_mem (List.mem_append_right _ (List.mem_of_getElem? (i := 275) rfl)) rfl), List.forall_mem_cons.mpr ⟨(ab_mem (List.mem_append_right _ (List.mem_of_getElem? (i := 277) rfl)) rfl), List.forall_mem_cons.mpr ⟨(ab_mem (List.mem_append_right _ (List.mem_of_getElem? (i := 279) rfl)) rfl), List.forall_mem_cons.mpr ⟨(ab_mem (List.mem_append_right _ (List.mem_of_getElem? (i := 281) rfl)) rfl), List.forall_mem_cons.mpr ⟨(ab_mem (List.mem_append_right _ (List.mem_of_getElem? (i := 283) rfl)) rfl), fun _ h => absurd h List.not_mem_nil⟩⟩⟩⟩⟩⟩⟩⟩, by decide +kernel, by decide +kernel⟩
theorem cl_Ro : ab_CL 1 "HiddenRows$Row" F_Ro 3 t_Ro := ⟨rfl, List.forall_mem_cons.mpr ⟨(ab_mem (List.mem_append_right _ (List.mem_of_getElem? (i := 38) rfl)) rfl), List.forall_mem_cons.mpr ⟨(ab_mem (List.mem_append_right _ (List.mem_of_getElem? (i := 40) rfl)) rfl), List.forall_mem_cons.mpr ⟨(ab_mem (List.mem_append_right _ (List.mem_of_getElem? (i := 42) rfl)) rfl), fun _ h => absurd h List.not_mem_nil⟩⟩⟩, by decide +kernel, by decide +kernel⟩
theorem cl_St : ab_CL 2 "HiddenRows$States" F_St 3 t_St := ⟨rfl, List.forall_mem_cons.mpr ⟨(ab_mem (List.mem_append_right _ (List.mem_of_getElem? (i := 69) rfl)) rfl), List.forall_mem_cons.mpr ⟨(ab_mem (List.mem_append_right _ (List.mem_of_getElem? (i := 71) rfl)) rfl), List.forall_mem_cons.mpr ⟨(ab_mem (List.mem_append_right _ (List.mem_of_getElem? (i := 73) rfl)) rfl), fun _ h => absurd h List.not_mem_nil⟩⟩⟩, by decide +kernel, by decide +kernel⟩
theorem cl_Ws : ab_CL 3 "HiddenRows$WaySums" F_Ws 9 t_Ws := ⟨rfl, List.forall_mem_cons.mpr ⟨(ab_mem (List.mem_append_right _ (List.mem_of_getElem? (i := 95) rfl)) rfl), List.forall_mem_cons.mpr ⟨(ab_mem (List.mem_append_right _ (List.mem_of_getElem? (i := 97) rfl)) rfl), List.forall_mem_cons.mpr ⟨(ab_mem (List.mem_append_right _ (List.mem_of_getElem? (i := 99) rfl)) rfl), List.forall_mem_cons.mpr ⟨(ab_mem (List.mem_append_right _ (List.mem_of_getElem? (i := 101) rfl)) rfl), List.forall_mem_cons.mpr ⟨(ab_mem (List.mem_append_right _ (List.mem_of_getElem? (i := 103) rfl)) rfl), List.forall_mem_cons.mpr ⟨(ab_mem (List.mem_append_right _ (List.mem_of_getElem? (i := 105) rfl)) rfl), List.forall_mem_cons.mpr ⟨(ab_mem (List.mem_append_right _ (List.mem_of_getElem? (i := 107) rfl)) rfl), List.forall_mem_cons.mpr ⟨(ab_mem (List.mem_append_right _ (List.mem_of_getElem? (i := 109) rfl)) rfl), List.forall_mem_cons.mpr ⟨(ab_mem (List.mem_append_right _ (List.mem_of_getElem? (i := 111) rfl)) rfl), fun _ h => absurd h List.not_mem_nil⟩⟩⟩⟩⟩⟩⟩⟩⟩, by decide +kernel, by decide +kernel⟩
theorem cl_Bw : ab_CL 4 "HiddenRows$BestWays" F_Bw 6 t_Bw := ⟨rfl, List.forall_mem_cons.mpr ⟨(ab_mem (List.mem_append_right _ (List.mem_of_getElem? (i := 151) rfl)) rfl), List.forall_mem_cons.mpr ⟨(ab_mem (List.mem_append_right _ (List.mem_of_getElem? (i := 153) rfl)) rfl), List.forall_mem_cons.mpr ⟨(ab_mem (List.mem_append_right _ (List.mem_of_getElem? (i := 155) rfl)) rfl), List.forall_mem_cons.mpr ⟨(ab_mem (List.mem_append_right _ (List.mem_of_getElem? (i := 157) rfl)) rfl), List.forall_mem_cons.mpr ⟨(ab_mem (List.mem_append_right _ (List.mem_of_getElem? (i := 159) rfl)) rfl), List.forall_mem_cons.mpr ⟨(ab_mem (List.mem_append_right _ (List.mem_of_getElem? (i := 161) rfl)) rfl), fun _ h => absurd h List.not_mem_nil⟩⟩⟩⟩⟩⟩, by decide +kernel, by decide +kernel⟩
theorem cl_Wl : ab_CL 5 "HiddenRows$WayList" F_Wl 3 t_Wl := ⟨rfl, List.forall_mem_cons.mpr ⟨(ab_mem (List.mem_append_right _ (List.mem_of_getElem? (i := 137) rfl)) rfl), List.forall_mem_cons.mpr ⟨(ab_mem (List.mem_append_right _ (List.mem_of_getElem? (i := 139) rfl)) rfl), List.forall_mem_cons.mpr ⟨(ab_mem (List.mem_append_right _ (List.mem_of_getElem? (i := 141) rfl)) rfl), fun _ h => absurd h List.not_mem_nil⟩⟩⟩, by decide +kernel, by decide +kernel⟩
theorem cl_Dr : ab_CL 6 "HiddenRows$Drawing" F_Dr 9 t_Dr := ⟨rfl, List.forall_mem_cons.mpr ⟨(ab_mem (List.mem_append_right _ (List.mem_of_getElem? (i := 181) rfl)) rfl), List.forall_mem_cons.mpr ⟨(ab_mem (List.mem_append_right _ (List.mem_of_getElem? (i := 183) rfl)) rfl), List.forall_mem_cons.mpr ⟨(ab_mem (List.mem_append_right _ (List.mem_of_getElem? (i := 185) rfl)) rfl), List.forall_mem_cons.mpr ⟨(ab_mem (List.mem_append_right _ (List.mem_of_getElem? (i := 187) rfl)) rfl), List.forall_mem_cons.mpr ⟨(ab_mem (List.mem_append_right _ (List.mem_of_getElem? (i := 189) rfl)) rfl), List.forall_mem_cons.mpr ⟨(ab_mem (List.mem_append_right _ (List.mem_of_getElem? (i := 191) rfl)) rfl), List.forall_mem_cons.mpr ⟨(ab_mem (List.mem_append_right _ (List.mem_of_getElem? (i := 193) rfl)) rfl), List.forall_mem_cons.mpr ⟨(ab_mem (List.mem_append_right _ (List.mem_of_getElem? (i := 195) rfl)) rfl), List.forall_mem_cons.mpr ⟨(ab_mem (List.mem_append_right _ (List.mem_of_getElem? (i := 197) rfl)) rfl), fun _ h => absurd h List.not_mem_nil⟩⟩⟩⟩⟩⟩⟩⟩⟩, by decide +kernel, by decide +kernel⟩
theorem cl_Ki : ab_CL 7 "HiddenRows$Kinds" F_Ki 3 t_Ki := ⟨rfl, List.forall_mem_cons.mpr ⟨(ab_mem (List.mem_append_right _ (List.mem_of_getElem? (i := 215) rfl)) rfl), List.forall_mem_cons.mpr ⟨(ab_mem (List.mem_append_right _ (List.mem_of_getElem? (i := 217) rfl)) rfl), List.forall_mem_cons.mpr ⟨(ab_mem (List.mem_append_right _ (List.mem_of_getElem? (i := 219) rfl)) rfl), fun _ h => absurd h List.not_mem_nil⟩⟩⟩, by decide +kernel, by decide +kernel⟩
theorem cl_Tt : ab_CL 8 "HiddenRows$TreeTables" F_Tt 10 t_Tt := ⟨rfl, List.forall_mem_cons.mpr ⟨(ab_mem (List.mem_append_right _ (List.mem_of_getElem? (i := 240) rfl)) rfl), List.forall_mem_cons.mpr ⟨(ab_mem (List.mem_append_right _ (List.mem_of_getElem? (i := 242) rfl)) rfl), List.forall_mem_cons.mpr ⟨(ab_mem (List.mem_append_right _ (List.mem_of_getElem? (i := 244) rfl)) rfl), List.forall_mem_cons.mpr ⟨(ab_mem (List.mem_append_right _ (List.mem_of_getElem? (i := 246) rfl)) rfl), List.forall_mem_cons.mpr ⟨(ab_mem (List.mem_append_right _ (List.mem_of_getElem? (i := 248) rfl)) rfl), List.forall_mem_cons.mpr ⟨(ab_mem (List.mem_append_right _ (List.mem_of_getElem? (i := 250) rfl)) rfl), List.forall_mem_cons.mpr ⟨(ab_mem (List.mem_append_right _ (List.mem_of_getElem? (i := 252) rfl)) rfl), List.forall_mem_cons.mpr ⟨(ab_mem (List.mem_append_right _ (List.mem_of_getElem? (i := 254) rfl)) rfl), List.forall_mem_cons.mpr ⟨(ab_mem (List.mem_append_right _ (List.mem_of_getElem? (i := 256) rfl)) rfl), List.forall_mem_cons.mpr ⟨(ab_mem (List.mem_append_right _ (List.mem_of_getElem? (i := 258) rfl)) rfl), fun _ h => absurd h List.not_mem_nil⟩⟩⟩⟩⟩⟩⟩⟩⟩⟩, by decide +kernel, by decide +kernel⟩
set_option maxRecDepth 20000 in
theorem cl_Mo : ab_CL 9 "HiddenRowsModel" F_Mo 27 t_Mo := ⟨rfl, List.forall_mem_cons.mpr ⟨(ab_mem (List.mem_append_right _ (List.mem_of_getElem? (i := 663) rfl)) rfl), List.forall_mem_cons.mpr ⟨(ab_mem (List.mem_append_right _ (List.mem_of_getElem? (i := 665) rfl)) rfl), List.forall_mem_cons.mpr ⟨(ab_mem (List.mem_append_right _ (List.mem_of_getElem? (i := 667) rfl)) rfl), List.forall_mem_cons.mpr ⟨(ab_mem (List.mem_append_right _ (List.mem_of_getElem? (i := 669) rfl)) rfl), List.forall_mem_cons.mpr ⟨(ab_mem (List.mem_append_right _ (List.mem_of_getElem? (i := 671) rfl)) rfl), List.forall_mem_cons.mpr ⟨(ab_mem (List.mem_append_right _ (List.mem_of_getElem? (i := 673) rfl)) rfl), List.forall_mem_cons.mpr ⟨(ab_mem (List.mem_append_right _ (List.mem_of_getElem? (i := 675) rfl)) rfl), List.forall_mem_cons.mpr ⟨(ab_mem (List.mem_append_right _ (List.mem_of_getElem? (i := 677) rfl)) rfl), List.forall_mem_cons.mpr ⟨(ab_mem (List.mem_append_right _ (List.mem_of_getElem? (i := 679) rfl)) rfl), List.forall_mem_cons.mpr ⟨(ab_mem (List.mem_append_right _ (List.mem_of_getElem? (i := 681) rfl)) rfl), List.forall_mem_cons.mpr ⟨(ab_mem (List.mem_append_right _ (List.mem_of_getElem? (i := 683) rfl)) rfl), List.forall_mem_cons.mpr ⟨(ab_mem (List.mem_append_right _ (List.mem_of_getElem? (i := 685) rfl)) rfl), List.forall_mem_cons.mpr ⟨(ab_mem (List.mem_append_right _ (List.mem_of_getElem? (i := 687) rfl)) rfl), List.forall_mem_cons.mpr ⟨(ab_mem (List.mem_append_right _ (List.mem_of_getElem? (i := 689) rfl)) rfl), List.forall_mem_cons.mpr ⟨(ab_mem (List.mem_append_right _ (List.mem_of_getElem? (i := 691) rfl)) rfl), List.forall_mem_cons.mpr ⟨(ab_mem (List.mem_append_right _ (List.mem_of_getElem? (i := 693) rfl)) rfl), List.forall_mem_cons.mpr ⟨(ab_mem (List.mem_append_right _ (List.mem_of_getElem? (i := 695) rfl)) rfl), List.forall_mem_cons.mpr ⟨(ab_mem (List.mem_append_right _ (List.mem_of_getElem? (i := 697) rfl)) rfl), List.forall_mem_cons.mpr ⟨(ab_mem (List.mem_append_right _ (List.mem_of_getElem? (i := 699) rfl)) rfl), List.forall_mem_cons.mpr ⟨(ab_mem (List.mem_append_right _ (List.mem_of_getElem? (i := 701) rfl)) rfl), List.forall_mem_cons.mpr ⟨(ab_mem (List.mem_append_right _ (List.mem_of_getElem? (i := 703) rfl)) rfl), List.forall_mem_cons.mpr ⟨(ab_mem (List.mem_append_right _ (List.mem_of_getElem? (i := 705) rfl)) rfl), List.forall_mem_cons.mpr ⟨(ab_mem (List.mem_append_right _ (List.mem_of_getElem? (i := 707) rfl)) rfl), List.forall_mem_cons.mpr ⟨(ab_mem (List.mem_append_right _ (List.mem_of_getElem? (i := 709) rfl)) rfl), List.forall_mem_cons.mpr ⟨(ab_mem (List.mem_append_right _ (List.mem_of_getElem? (i := 711) rfl)) rfl), List.forall_mem_cons.mpr ⟨(ab_mem (List.mem_append_right _ (List.mem_of_getElem? (i := 713) rfl)) rfl), List.forall_mem_cons.mpr ⟨(ab_mem (List.mem_append_right _ (List.mem_of_getElem? (i := 715) rfl)) rfl), fun _ h => absurd h List.not_mem_nil⟩⟩⟩⟩⟩⟩⟩⟩⟩⟩⟩⟩⟩⟩⟩⟩⟩⟩⟩⟩⟩⟩⟩⟩⟩⟩⟩, by decide +kernel, by decide +kernel⟩
theorem cc_H_9 : Cond.classLink "HiddenRows" 9 "HiddenRows$Row" ∈ ab_tbl := (ab_mem (List.mem_append_right _ (List.mem_of_getElem? (i := 20) rfl)) rfl)
theorem cc_H_16 : Cond.classLink "HiddenRows" 16 "HiddenRows$States" ∈ ab_tbl := (ab_mem (List.mem_append_right _ (List.mem_of_getElem? (i := 46) rfl)) rfl)
theorem cc_H_23 : Cond.classLink "HiddenRows" 23 "HiddenRows$WaySums" ∈ ab_tbl := (ab_mem (List.mem_append_right _ (List.mem_of_getElem? (i := 76) rfl)) rfl)
theorem cc_H_35 : Cond.classLink "HiddenRows" 35 "HiddenRows$BestWays" ∈ ab_tbl := (ab_mem (List.mem_append_right _ (List.mem_of_getElem? (i := 115) rfl)) rfl)
theorem cc_H_44 : Cond.classLink "HiddenRows" 44 "HiddenRows$Drawing" ∈ ab_tbl := (ab_mem (List.mem_append_right _ (List.mem_of_getElem? (i := 164) rfl)) rfl)
theorem cc_H_51 : Cond.classLink "HiddenRows" 51 "HiddenRows$Kinds" ∈ ab_tbl := (ab_mem (List.mem_append_right _ (List.mem_of_getElem? (i := 200) rfl)) rfl)
theorem cc_H_58 : Cond.classLink "HiddenRows" 58 "HiddenRows$TreeTables" ∈ ab_tbl := (ab_mem (List.mem_append_right _ (List.mem_of_getElem? (i := 222) rfl)) rfl)
theorem cc_Bw_9 : Cond.classLink "HiddenRows$BestWays" 9 "HiddenRows$WayList" ∈ ab_tbl := (ab_mem (List.mem_append_right _ (List.mem_of_getElem? (i := 121) rfl)) rfl)
theorem cc_Ki_9 : Cond.classLink "HiddenRows$Kinds" 9 "[[I" ∈ ab_tbl := (ab_mem (List.mem_append_right _ (List.mem_of_getElem? (i := 206) rfl)) rfl)
theorem cc_St_9 : Cond.classLink "HiddenRows$States" 9 "[[I" ∈ ab_tbl := (ab_mem (List.mem_append_right _ (List.mem_of_getElem? (i := 52) rfl)) rfl)
theorem cc_Tt_11 : Cond.classLink "HiddenRows$TreeTables" 11 "[[J" ∈ ab_tbl := (ab_mem (List.mem_append_right _ (List.mem_of_getElem? (i := 228) rfl)) rfl)
theorem cc_Ws_9 : Cond.classLink "HiddenRows$WaySums" 9 "[[J" ∈ ab_tbl := (ab_mem (List.mem_append_right _ (List.mem_of_getElem? (i := 82) rfl)) rfl)
theorem cc_La_7 : Cond.classLink "HiddenRowsLaw" 7 "HiddenRows" ∈ ab_tbl := (ab_mem (List.mem_append_right _ (List.mem_of_getElem? (i := 12) rfl)) rfl)
set_option maxRecDepth 20000 in
theorem cc_La_10 : Cond.classLink "HiddenRowsLaw" 10 "HiddenRowsModel" ∈ ab_tbl := (ab_mem (List.mem_append_right _ (List.mem_of_getElem? (i := 630) rfl)) rfl)
theorem ff_H_12 : ab_F "HiddenRows" 12 0 0 true (.object "HiddenRows$Row") := ab_F_mk cl_H (by decide) (ab_mem (List.mem_append_right _ (List.mem_of_getElem? (i := 261) rfl)) rfl) rfl (by decide +kernel)
theorem ff_H_19 : ab_F "HiddenRows" 19 0 1 true (.object "HiddenRows$States") := ab_F_mk cl_H (by decide) (ab_mem (List.mem_append_right _ (List.mem_of_getElem? (i := 262) rfl)) rfl) rfl (by decide +kernel)
theorem ff_H_28 : ab_F "HiddenRows" 28 0 2 true (.object "HiddenRows$WaySums") := ab_F_mk cl_H (by decide) (ab_mem (List.mem_append_right _ (List.mem_of_getElem? (i := 263) rfl)) rfl) rfl (by decide +kernel)
theorem ff_H_32 : ab_F "HiddenRows" 32 0 3 true (.object "HiddenRows$WaySums") := ab_F_mk cl_H (by decide) (ab_mem (List.mem_append_right _ (List.mem_of_getElem? (i := 264) rfl)) rfl) rfl (by decide +kernel)
theorem ff_H_40 : ab_F "HiddenRows" 40 0 4 true (.object "HiddenRows$BestWays") := ab_F_mk cl_H (by decide) (ab_mem (List.mem_append_right _ (List.mem_of_getElem? (i := 265) rfl)) rfl) rfl (by decide +kernel)
theorem ff_H_47 : ab_F "HiddenRows" 47 0 5 true (.object "HiddenRows$Drawing") := ab_F_mk cl_H (by decide) (ab_mem (List.mem_append_right _ (List.mem_of_getElem? (i := 266) rfl)) rfl) rfl (by decide +kernel)
theorem ff_H_54 : ab_F "HiddenRows" 54 0 6 true (.object "HiddenRows$Kinds") := ab_F_mk cl_H (by decide) (ab_mem (List.mem_append_right _ (List.mem_of_getElem? (i := 267) rfl)) rfl) rfl (by decide +kernel)
theorem ff_H_63 : ab_F "HiddenRows" 63 0 7 true (.object "HiddenRows$TreeTables") := ab_F_mk cl_H (by decide) (ab_mem (List.mem_append_right _ (List.mem_of_getElem? (i := 268) rfl)) rfl) rfl (by decide +kernel)
theorem ff_H_67 : ab_F "HiddenRows" 67 2 2 false .int := ab_F_mk cl_St (by decide) (ab_mem (List.mem_append_right _ (List.mem_of_getElem? (i := 65) rfl)) rfl) rfl (by decide +kernel)
theorem ff_H_85 : ab_F "HiddenRows" 85 2 0 true (.array (.array .int)) := ab_F_mk cl_St (by decide) (ab_mem (List.mem_append_right _ (List.mem_of_getElem? (i := 56) rfl)) rfl) rfl (by decide +kernel)
theorem ff_H_89 : ab_F "HiddenRows" 89 2 1 true (.array (.array .int)) := ab_F_mk cl_St (by decide) (ab_mem (List.mem_append_right _ (List.mem_of_getElem? (i := 60) rfl)) rfl) rfl (by decide +kernel)
theorem ff_H_92 : ab_F "HiddenRows" 92 7 2 false .int := ab_F_mk cl_Ki (by decide) (ab_mem (List.mem_append_right _ (List.mem_of_getElem? (i := 213) rfl)) rfl) rfl (by decide +kernel)
theorem ff_H_101 : ab_F "HiddenRows" 101 7 0 true (.array (.array .int)) := ab_F_mk cl_Ki (by decide) (ab_mem (List.mem_append_right _ (List.mem_of_getElem? (i := 208) rfl)) rfl) rfl (by decide +kernel)
theorem ff_H_104 : ab_F "HiddenRows" 104 7 1 true (.array (.array .int)) := ab_F_mk cl_Ki (by decide) (ab_mem (List.mem_append_right _ (List.mem_of_getElem? (i := 211) rfl)) rfl) rfl (by decide +kernel)
theorem ff_H_107 : ab_F "HiddenRows" 107 1 2 false .int := ab_F_mk cl_Ro (by decide) (ab_mem (List.mem_append_right _ (List.mem_of_getElem? (i := 37) rfl)) rfl) rfl (by decide +kernel)
theorem ff_H_115 : ab_F "HiddenRows" 115 1 1 true (.array .int) := ab_F_mk cl_Ro (by decide) (ab_mem (List.mem_append_right _ (List.mem_of_getElem? (i := 31) rfl)) rfl) rfl (by decide +kernel)
theorem ff_H_149 : ab_F "HiddenRows" 149 5 2 false .int := ab_F_mk cl_Wl (by decide) (ab_mem (List.mem_append_right _ (List.mem_of_getElem? (i := 136) rfl)) rfl) rfl (by decide +kernel)
theorem ff_H_154 : ab_F "HiddenRows" 154 5 0 true (.array .long) := ab_F_mk cl_Wl (by decide) (ab_mem (List.mem_append_right _ (List.mem_of_getElem? (i := 130) rfl)) rfl) rfl (by decide +kernel)
theorem ff_H_159 : ab_F "HiddenRows" 159 5 1 true (.array .int) := ab_F_mk cl_Wl (by decide) (ab_mem (List.mem_append_right _ (List.mem_of_getElem? (i := 133) rfl)) rfl) rfl (by decide +kernel)
theorem ff_H_173 : ab_F "HiddenRows" 173 6 8 false .boolean := ab_F_mk cl_Dr (by decide) (ab_mem (List.mem_append_right _ (List.mem_of_getElem? (i := 180) rfl)) rfl) rfl (by decide +kernel)
theorem ff_H_177 : ab_F "HiddenRows" 177 6 7 false .int := ab_F_mk cl_Dr (by decide) (ab_mem (List.mem_append_right _ (List.mem_of_getElem? (i := 178) rfl)) rfl) rfl (by decide +kernel)
theorem ff_H_195 : ab_F "HiddenRows" 195 3 8 false .boolean := ab_F_mk cl_Ws (by decide) (ab_mem (List.mem_append_right _ (List.mem_of_getElem? (i := 94) rfl)) rfl) rfl (by decide +kernel)
theorem ff_H_196 : ab_F "HiddenRows" 196 4 5 false .boolean := ab_F_mk cl_Bw (by decide) (ab_mem (List.mem_append_right _ (List.mem_of_getElem? (i := 150) rfl)) rfl) rfl (by decide +kernel)
theorem ff_H_197 : ab_F "HiddenRows" 197 8 9 false .boolean := ab_F_mk cl_Tt (by decide) (ab_mem (List.mem_append_right _ (List.mem_of_getElem? (i := 239) rfl)) rfl) rfl (by decide +kernel)
theorem ff_Bw_11 : ab_F "HiddenRows$BestWays" 11 4 3 true (.array (.object "HiddenRows$WayList")) := ab_F_mk cl_Bw (by decide) (ab_mem (List.mem_append_right _ (List.mem_of_getElem? (i := 147) rfl)) rfl) rfl (by decide +kernel)
theorem ff_Bw_18 : ab_F "HiddenRows$BestWays" 18 4 4 true (.object "HiddenRows$WayList") := ab_F_mk cl_Bw (by decide) (ab_mem (List.mem_append_right _ (List.mem_of_getElem? (i := 148) rfl)) rfl) rfl (by decide +kernel)
theorem ff_Bw_22 : ab_F "HiddenRows$BestWays" 22 4 5 false .boolean := ab_F_mk cl_Bw (by decide) (ab_mem (List.mem_append_right _ (List.mem_of_getElem? (i := 149) rfl)) rfl) rfl (by decide +kernel)
theorem ff_Bw_26 : ab_F "HiddenRows$BestWays" 26 4 0 true (.object "HiddenRows$Row") := ab_F_mk cl_Bw (by decide) (ab_mem (List.mem_append_right _ (List.mem_of_getElem? (i := 144) rfl)) rfl) rfl (by decide +kernel)
theorem ff_Bw_30 : ab_F "HiddenRows$BestWays" 30 4 1 true (.object "HiddenRows$States") := ab_F_mk cl_Bw (by decide) (ab_mem (List.mem_append_right _ (List.mem_of_getElem? (i := 145) rfl)) rfl) rfl (by decide +kernel)
theorem ff_Bw_34 : ab_F "HiddenRows$BestWays" 34 4 2 true (.object "HiddenRows$WaySums") := ab_F_mk cl_Bw (by decide) (ab_mem (List.mem_append_right _ (List.mem_of_getElem? (i := 146) rfl)) rfl) rfl (by decide +kernel)
theorem ff_Bw_43 : ab_F "HiddenRows$BestWays" 43 1 2 false .int := ab_F_mk cl_Ro (by decide) (ab_mem (List.mem_append_right _ (List.mem_of_getElem? (i := 35) rfl)) rfl) rfl (by decide +kernel)
theorem ff_Bw_49 : ab_F "HiddenRows$BestWays" 49 2 2 false .int := ab_F_mk cl_St (by decide) (ab_mem (List.mem_append_right _ (List.mem_of_getElem? (i := 67) rfl)) rfl) rfl (by decide +kernel)
theorem ff_Bw_61 : ab_F "HiddenRows$BestWays" 61 5 2 false .int := ab_F_mk cl_Wl (by decide) (ab_mem (List.mem_append_right _ (List.mem_of_getElem? (i := 135) rfl)) rfl) rfl (by decide +kernel)
theorem ff_Bw_64 : ab_F "HiddenRows$BestWays" 64 2 0 true (.array (.array .int)) := ab_F_mk cl_St (by decide) (ab_mem (List.mem_append_right _ (List.mem_of_getElem? (i := 55) rfl)) rfl) rfl (by decide +kernel)
theorem ff_Bw_88 : ab_F "HiddenRows$BestWays" 88 2 1 true (.array (.array .int)) := ab_F_mk cl_St (by decide) (ab_mem (List.mem_append_right _ (List.mem_of_getElem? (i := 62) rfl)) rfl) rfl (by decide +kernel)
theorem ff_Bw_91 : ab_F "HiddenRows$BestWays" 91 5 0 true (.array .long) := ab_F_mk cl_Wl (by decide) (ab_mem (List.mem_append_right _ (List.mem_of_getElem? (i := 129) rfl)) rfl) rfl (by decide +kernel)
theorem ff_Bw_94 : ab_F "HiddenRows$BestWays" 94 5 1 true (.array .int) := ab_F_mk cl_Wl (by decide) (ab_mem (List.mem_append_right _ (List.mem_of_getElem? (i := 132) rfl)) rfl) rfl (by decide +kernel)
theorem ff_Dr_9 : ab_F "HiddenRows$Drawing" 9 6 3 false .long := ab_F_mk cl_Dr (by decide) (ab_mem (List.mem_append_right _ (List.mem_of_getElem? (i := 173) rfl)) rfl) rfl (by decide +kernel)
theorem ff_Dr_15 : ab_F "HiddenRows$Drawing" 15 6 4 false .int := ab_F_mk cl_Dr (by decide) (ab_mem (List.mem_append_right _ (List.mem_of_getElem? (i := 174) rfl)) rfl) rfl (by decide +kernel)
theorem ff_Dr_19 : ab_F "HiddenRows$Drawing" 19 6 5 false .int := ab_F_mk cl_Dr (by decide) (ab_mem (List.mem_append_right _ (List.mem_of_getElem? (i := 175) rfl)) rfl) rfl (by decide +kernel)
theorem ff_Dr_22 : ab_F "HiddenRows$Drawing" 22 6 6 false .long := ab_F_mk cl_Dr (by decide) (ab_mem (List.mem_append_right _ (List.mem_of_getElem? (i := 176) rfl)) rfl) rfl (by decide +kernel)
theorem ff_Dr_25 : ab_F "HiddenRows$Drawing" 25 6 7 false .int := ab_F_mk cl_Dr (by decide) (ab_mem (List.mem_append_right _ (List.mem_of_getElem? (i := 177) rfl)) rfl) rfl (by decide +kernel)
theorem ff_Dr_28 : ab_F "HiddenRows$Drawing" 28 6 8 false .boolean := ab_F_mk cl_Dr (by decide) (ab_mem (List.mem_append_right _ (List.mem_of_getElem? (i := 179) rfl)) rfl) rfl (by decide +kernel)
theorem ff_Dr_32 : ab_F "HiddenRows$Drawing" 32 6 0 true (.object "HiddenRows$Row") := ab_F_mk cl_Dr (by decide) (ab_mem (List.mem_append_right _ (List.mem_of_getElem? (i := 170) rfl)) rfl) rfl (by decide +kernel)
theorem ff_Dr_36 : ab_F "HiddenRows$Drawing" 36 6 1 true (.object "HiddenRows$States") := ab_F_mk cl_Dr (by decide) (ab_mem (List.mem_append_right _ (List.mem_of_getElem? (i := 171) rfl)) rfl) rfl (by decide +kernel)
theorem ff_Dr_40 : ab_F "HiddenRows$Drawing" 40 6 2 true (.object "HiddenRows$WaySums") := ab_F_mk cl_Dr (by decide) (ab_mem (List.mem_append_right _ (List.mem_of_getElem? (i := 172) rfl)) rfl) rfl (by decide +kernel)
theorem ff_Dr_53 : ab_F "HiddenRows$Drawing" 53 1 2 false .int := ab_F_mk cl_Ro (by decide) (ab_mem (List.mem_append_right _ (List.mem_of_getElem? (i := 36) rfl)) rfl) rfl (by decide +kernel)
theorem ff_Dr_66 : ab_F "HiddenRows$Drawing" 66 2 0 true (.array (.array .int)) := ab_F_mk cl_St (by decide) (ab_mem (List.mem_append_right _ (List.mem_of_getElem? (i := 57) rfl)) rfl) rfl (by decide +kernel)
theorem ff_Dr_72 : ab_F "HiddenRows$Drawing" 72 2 2 false .int := ab_F_mk cl_St (by decide) (ab_mem (List.mem_append_right _ (List.mem_of_getElem? (i := 68) rfl)) rfl) rfl (by decide +kernel)
theorem ff_Dr_86 : ab_F "HiddenRows$Drawing" 86 3 4 true (.array (.array .long)) := ab_F_mk cl_Ws (by decide) (ab_mem (List.mem_append_right _ (List.mem_of_getElem? (i := 89) rfl)) rfl) rfl (by decide +kernel)
theorem ff_Dr_94 : ab_F "HiddenRows$Drawing" 94 2 1 true (.array (.array .int)) := ab_F_mk cl_St (by decide) (ab_mem (List.mem_append_right _ (List.mem_of_getElem? (i := 63) rfl)) rfl) rfl (by decide +kernel)
theorem ff_Ki_11 : ab_F "HiddenRows$Kinds" 11 7 0 true (.array (.array .int)) := ab_F_mk cl_Ki (by decide) (ab_mem (List.mem_append_right _ (List.mem_of_getElem? (i := 207) rfl)) rfl) rfl (by decide +kernel)
theorem ff_Ki_16 : ab_F "HiddenRows$Kinds" 16 7 1 true (.array (.array .int)) := ab_F_mk cl_Ki (by decide) (ab_mem (List.mem_append_right _ (List.mem_of_getElem? (i := 210) rfl)) rfl) rfl (by decide +kernel)
theorem ff_Ki_19 : ab_F "HiddenRows$Kinds" 19 7 2 false .int := ab_F_mk cl_Ki (by decide) (ab_mem (List.mem_append_right _ (List.mem_of_getElem? (i := 212) rfl)) rfl) rfl (by decide +kernel)
theorem ff_Ro_9 : ab_F "HiddenRows$Row" 9 1 0 true (.array .int) := ab_F_mk cl_Ro (by decide) (ab_mem (List.mem_append_right _ (List.mem_of_getElem? (i := 26) rfl)) rfl) rfl (by decide +kernel)
theorem ff_Ro_15 : ab_F "HiddenRows$Row" 15 1 1 true (.array .int) := ab_F_mk cl_Ro (by decide) (ab_mem (List.mem_append_right _ (List.mem_of_getElem? (i := 29) rfl)) rfl) rfl (by decide +kernel)
theorem ff_Ro_18 : ab_F "HiddenRows$Row" 18 1 2 false .int := ab_F_mk cl_Ro (by decide) (ab_mem (List.mem_append_right _ (List.mem_of_getElem? (i := 32) rfl)) rfl) rfl (by decide +kernel)
theorem ff_St_11 : ab_F "HiddenRows$States" 11 2 0 true (.array (.array .int)) := ab_F_mk cl_St (by decide) (ab_mem (List.mem_append_right _ (List.mem_of_getElem? (i := 54) rfl)) rfl) rfl (by decide +kernel)
theorem ff_St_16 : ab_F "HiddenRows$States" 16 2 1 true (.array (.array .int)) := ab_F_mk cl_St (by decide) (ab_mem (List.mem_append_right _ (List.mem_of_getElem? (i := 59) rfl)) rfl) rfl (by decide +kernel)
theorem ff_St_19 : ab_F "HiddenRows$States" 19 2 2 false .int := ab_F_mk cl_St (by decide) (ab_mem (List.mem_append_right _ (List.mem_of_getElem? (i := 64) rfl)) rfl) rfl (by decide +kernel)
theorem ff_Tt_13 : ab_F "HiddenRows$TreeTables" 13 8 2 true (.array (.array .long)) := ab_F_mk cl_Tt (by decide) (ab_mem (List.mem_append_right _ (List.mem_of_getElem? (i := 231) rfl)) rfl) rfl (by decide +kernel)
theorem ff_Tt_16 : ab_F "HiddenRows$TreeTables" 16 8 3 true (.array (.array .long)) := ab_F_mk cl_Tt (by decide) (ab_mem (List.mem_append_right _ (List.mem_of_getElem? (i := 232) rfl)) rfl) rfl (by decide +kernel)
theorem ff_Tt_19 : ab_F "HiddenRows$TreeTables" 19 8 4 true (.array (.array .long)) := ab_F_mk cl_Tt (by decide) (ab_mem (List.mem_append_right _ (List.mem_of_getElem? (i := 233) rfl)) rfl) rfl (by decide +kernel)
theorem ff_Tt_22 : ab_F "HiddenRows$TreeTables" 22 8 5 true (.array (.array .long)) := ab_F_mk cl_Tt (by decide) (ab_mem (List.mem_append_right _ (List.mem_of_getElem? (i := 234) rfl)) rfl) rfl (by decide +kernel)
theorem ff_Tt_25 : ab_F "HiddenRows$TreeTables" 25 8 6 true (.array .int) := ab_F_mk cl_Tt (by decide) (ab_mem (List.mem_append_right _ (List.mem_of_getElem? (i := 235) rfl)) rfl) rfl (by decide +kernel)
theorem ff_Tt_29 : ab_F "HiddenRows$TreeTables" 29 8 7 true (.array .int) := ab_F_mk cl_Tt (by decide) (ab_mem (List.mem_append_right _ (List.mem_of_getElem? (i := 236) rfl)) rfl) rfl (by decide +kernel)
theorem ff_Tt_32 : ab_F "HiddenRows$TreeTables" 32 8 8 false .int := ab_F_mk cl_Tt (by decide) (ab_mem (List.mem_append_right _ (List.mem_of_getElem? (i := 237) rfl)) rfl) rfl (by decide +kernel)
theorem ff_Tt_36 : ab_F "HiddenRows$TreeTables" 36 8 9 false .boolean := ab_F_mk cl_Tt (by decide) (ab_mem (List.mem_append_right _ (List.mem_of_getElem? (i := 238) rfl)) rfl) rfl (by decide +kernel)
theorem ff_Tt_40 : ab_F "HiddenRows$TreeTables" 40 8 0 true (.object "HiddenRows$Row") := ab_F_mk cl_Tt (by decide) (ab_mem (List.mem_append_right _ (List.mem_of_getElem? (i := 229) rfl)) rfl) rfl (by decide +kernel)
theorem ff_Tt_44 : ab_F "HiddenRows$TreeTables" 44 8 1 true (.object "HiddenRows$Kinds") := ab_F_mk cl_Tt (by decide) (ab_mem (List.mem_append_right _ (List.mem_of_getElem? (i := 230) rfl)) rfl) rfl (by decide +kernel)
theorem ff_Tt_51 : ab_F "HiddenRows$TreeTables" 51 1 2 false .int := ab_F_mk cl_Ro (by decide) (ab_mem (List.mem_append_right _ (List.mem_of_getElem? (i := 33) rfl)) rfl) rfl (by decide +kernel)
theorem ff_Tt_60 : ab_F "HiddenRows$TreeTables" 60 7 2 false .int := ab_F_mk cl_Ki (by decide) (ab_mem (List.mem_append_right _ (List.mem_of_getElem? (i := 214) rfl)) rfl) rfl (by decide +kernel)
theorem ff_Tt_68 : ab_F "HiddenRows$TreeTables" 68 1 0 true (.array .int) := ab_F_mk cl_Ro (by decide) (ab_mem (List.mem_append_right _ (List.mem_of_getElem? (i := 27) rfl)) rfl) rfl (by decide +kernel)
theorem ff_Tt_84 : ab_F "HiddenRows$TreeTables" 84 7 0 true (.array (.array .int)) := ab_F_mk cl_Ki (by decide) (ab_mem (List.mem_append_right _ (List.mem_of_getElem? (i := 209) rfl)) rfl) rfl (by decide +kernel)
theorem ff_Wl_9 : ab_F "HiddenRows$WayList" 9 5 0 true (.array .long) := ab_F_mk cl_Wl (by decide) (ab_mem (List.mem_append_right _ (List.mem_of_getElem? (i := 128) rfl)) rfl) rfl (by decide +kernel)
theorem ff_Wl_15 : ab_F "HiddenRows$WayList" 15 5 1 true (.array .int) := ab_F_mk cl_Wl (by decide) (ab_mem (List.mem_append_right _ (List.mem_of_getElem? (i := 131) rfl)) rfl) rfl (by decide +kernel)
theorem ff_Wl_19 : ab_F "HiddenRows$WayList" 19 5 2 false .int := ab_F_mk cl_Wl (by decide) (ab_mem (List.mem_append_right _ (List.mem_of_getElem? (i := 134) rfl)) rfl) rfl (by decide +kernel)
theorem ff_Ws_11 : ab_F "HiddenRows$WaySums" 11 3 3 true (.array (.array .long)) := ab_F_mk cl_Ws (by decide) (ab_mem (List.mem_append_right _ (List.mem_of_getElem? (i := 87) rfl)) rfl) rfl (by decide +kernel)
theorem ff_Ws_16 : ab_F "HiddenRows$WaySums" 16 3 4 true (.array (.array .long)) := ab_F_mk cl_Ws (by decide) (ab_mem (List.mem_append_right _ (List.mem_of_getElem? (i := 88) rfl)) rfl) rfl (by decide +kernel)
theorem ff_Ws_19 : ab_F "HiddenRows$WaySums" 19 3 5 true (.array (.array .long)) := ab_F_mk cl_Ws (by decide) (ab_mem (List.mem_append_right _ (List.mem_of_getElem? (i := 90) rfl)) rfl) rfl (by decide +kernel)
theorem ff_Ws_22 : ab_F "HiddenRows$WaySums" 22 3 6 true (.array (.array .long)) := ab_F_mk cl_Ws (by decide) (ab_mem (List.mem_append_right _ (List.mem_of_getElem? (i := 91) rfl)) rfl) rfl (by decide +kernel)
theorem ff_Ws_25 : ab_F "HiddenRows$WaySums" 25 3 7 true (.array (.array .long)) := ab_F_mk cl_Ws (by decide) (ab_mem (List.mem_append_right _ (List.mem_of_getElem? (i := 92) rfl)) rfl) rfl (by decide +kernel)
theorem ff_Ws_28 : ab_F "HiddenRows$WaySums" 28 3 8 false .boolean := ab_F_mk cl_Ws (by decide) (ab_mem (List.mem_append_right _ (List.mem_of_getElem? (i := 93) rfl)) rfl) rfl (by decide +kernel)
theorem ff_Ws_32 : ab_F "HiddenRows$WaySums" 32 3 0 true (.object "HiddenRows$Row") := ab_F_mk cl_Ws (by decide) (ab_mem (List.mem_append_right _ (List.mem_of_getElem? (i := 84) rfl)) rfl) rfl (by decide +kernel)
theorem ff_Ws_36 : ab_F "HiddenRows$WaySums" 36 3 1 true (.object "HiddenRows$States") := ab_F_mk cl_Ws (by decide) (ab_mem (List.mem_append_right _ (List.mem_of_getElem? (i := 85) rfl)) rfl) rfl (by decide +kernel)
theorem ff_Ws_40 : ab_F "HiddenRows$WaySums" 40 3 2 true .int := ab_F_mk cl_Ws (by decide) (ab_mem (List.mem_append_right _ (List.mem_of_getElem? (i := 86) rfl)) rfl) rfl (by decide +kernel)
theorem ff_Ws_47 : ab_F "HiddenRows$WaySums" 47 1 2 false .int := ab_F_mk cl_Ro (by decide) (ab_mem (List.mem_append_right _ (List.mem_of_getElem? (i := 34) rfl)) rfl) rfl (by decide +kernel)
theorem ff_Ws_52 : ab_F "HiddenRows$WaySums" 52 2 2 false .int := ab_F_mk cl_St (by decide) (ab_mem (List.mem_append_right _ (List.mem_of_getElem? (i := 66) rfl)) rfl) rfl (by decide +kernel)
theorem ff_Ws_67 : ab_F "HiddenRows$WaySums" 67 2 1 true (.array (.array .int)) := ab_F_mk cl_St (by decide) (ab_mem (List.mem_append_right _ (List.mem_of_getElem? (i := 61) rfl)) rfl) rfl (by decide +kernel)
theorem ff_Ws_78 : ab_F "HiddenRows$WaySums" 78 2 0 true (.array (.array .int)) := ab_F_mk cl_St (by decide) (ab_mem (List.mem_append_right _ (List.mem_of_getElem? (i := 58) rfl)) rfl) rfl (by decide +kernel)
theorem ff_Ws_94 : ab_F "HiddenRows$WaySums" 94 1 1 true (.array .int) := ab_F_mk cl_Ro (by decide) (ab_mem (List.mem_append_right _ (List.mem_of_getElem? (i := 30) rfl)) rfl) rfl (by decide +kernel)
theorem ff_Ws_98 : ab_F "HiddenRows$WaySums" 98 1 0 true (.array .int) := ab_F_mk cl_Ro (by decide) (ab_mem (List.mem_append_right _ (List.mem_of_getElem? (i := 28) rfl)) rfl) rfl (by decide +kernel)
set_option maxRecDepth 20000 in
theorem ff_Mo_7 : ab_F "HiddenRowsModel" 7 9 1 true (.array .int) := ab_F_mk cl_Mo (by decide) (ab_mem (List.mem_append_right _ (List.mem_of_getElem? (i := 637) rfl)) rfl) rfl (by decide +kernel)
set_option maxRecDepth 20000 in
theorem ff_Mo_13 : ab_F "HiddenRowsModel" 13 9 2 true (.array .int) := ab_F_mk cl_Mo (by decide) (ab_mem (List.mem_append_right _ (List.mem_of_getElem? (i := 638) rfl)) rfl) rfl (by decide +kernel)
set_option maxRecDepth 20000 in
theorem ff_Mo_16 : ab_F "HiddenRowsModel" 16 9 4 true (.array .int) := ab_F_mk cl_Mo (by decide) (ab_mem (List.mem_append_right _ (List.mem_of_getElem? (i := 640) rfl)) rfl) rfl (by decide +kernel)
set_option maxRecDepth 20000 in
theorem ff_Mo_19 : ab_F "HiddenRowsModel" 19 9 5 true (.array .int) := ab_F_mk cl_Mo (by decide) (ab_mem (List.mem_append_right _ (List.mem_of_getElem? (i := 641) rfl)) rfl) rfl (by decide +kernel)
set_option maxRecDepth 20000 in
theorem ff_Mo_22 : ab_F "HiddenRowsModel" 22 9 7 true (.array .int) := ab_F_mk cl_Mo (by decide) (ab_mem (List.mem_append_right _ (List.mem_of_getElem? (i := 643) rfl)) rfl) rfl (by decide +kernel)
set_option maxRecDepth 20000 in
theorem ff_Mo_25 : ab_F "HiddenRowsModel" 25 9 8 true (.array .int) := ab_F_mk cl_Mo (by decide) (ab_mem (List.mem_append_right _ (List.mem_of_getElem? (i := 644) rfl)) rfl) rfl (by decide +kernel)
set_option maxRecDepth 20000 in
theorem ff_Mo_28 : ab_F "HiddenRowsModel" 28 9 11 true (.array .int) := ab_F_mk cl_Mo (by decide) (ab_mem (List.mem_append_right _ (List.mem_of_getElem? (i := 647) rfl)) rfl) rfl (by decide +kernel)
set_option maxRecDepth 20000 in
theorem ff_Mo_31 : ab_F "HiddenRowsModel" 31 9 14 true (.array .long) := ab_F_mk cl_Mo (by decide) (ab_mem (List.mem_append_right _ (List.mem_of_getElem? (i := 650) rfl)) rfl) rfl (by decide +kernel)
set_option maxRecDepth 20000 in
theorem ff_Mo_35 : ab_F "HiddenRowsModel" 35 9 15 true (.array .long) := ab_F_mk cl_Mo (by decide) (ab_mem (List.mem_append_right _ (List.mem_of_getElem? (i := 651) rfl)) rfl) rfl (by decide +kernel)
set_option maxRecDepth 20000 in
theorem ff_Mo_38 : ab_F "HiddenRowsModel" 38 9 16 true (.array .long) := ab_F_mk cl_Mo (by decide) (ab_mem (List.mem_append_right _ (List.mem_of_getElem? (i := 652) rfl)) rfl) rfl (by decide +kernel)
set_option maxRecDepth 20000 in
theorem ff_Mo_41 : ab_F "HiddenRowsModel" 41 9 18 true (.array .long) := ab_F_mk cl_Mo (by decide) (ab_mem (List.mem_append_right _ (List.mem_of_getElem? (i := 654) rfl)) rfl) rfl (by decide +kernel)
set_option maxRecDepth 20000 in
theorem ff_Mo_44 : ab_F "HiddenRowsModel" 44 9 19 true (.array .int) := ab_F_mk cl_Mo (by decide) (ab_mem (List.mem_append_right _ (List.mem_of_getElem? (i := 655) rfl)) rfl) rfl (by decide +kernel)
set_option maxRecDepth 20000 in
theorem ff_Mo_47 : ab_F "HiddenRowsModel" 47 9 20 true (.array .int) := ab_F_mk cl_Mo (by decide) (ab_mem (List.mem_append_right _ (List.mem_of_getElem? (i := 656) rfl)) rfl) rfl (by decide +kernel)
set_option maxRecDepth 20000 in
theorem ff_Mo_50 : ab_F "HiddenRowsModel" 50 9 21 true (.array .long) := ab_F_mk cl_Mo (by decide) (ab_mem (List.mem_append_right _ (List.mem_of_getElem? (i := 657) rfl)) rfl) rfl (by decide +kernel)
set_option maxRecDepth 20000 in
theorem ff_Mo_53 : ab_F "HiddenRowsModel" 53 9 22 true (.array .long) := ab_F_mk cl_Mo (by decide) (ab_mem (List.mem_append_right _ (List.mem_of_getElem? (i := 658) rfl)) rfl) rfl (by decide +kernel)
set_option maxRecDepth 20000 in
theorem ff_Mo_56 : ab_F "HiddenRowsModel" 56 9 23 true (.array .long) := ab_F_mk cl_Mo (by decide) (ab_mem (List.mem_append_right _ (List.mem_of_getElem? (i := 659) rfl)) rfl) rfl (by decide +kernel)
set_option maxRecDepth 20000 in
theorem ff_Mo_59 : ab_F "HiddenRowsModel" 59 9 24 true (.array .int) := ab_F_mk cl_Mo (by decide) (ab_mem (List.mem_append_right _ (List.mem_of_getElem? (i := 660) rfl)) rfl) rfl (by decide +kernel)
set_option maxRecDepth 20000 in
theorem ff_Mo_62 : ab_F "HiddenRowsModel" 62 9 25 true (.array .int) := ab_F_mk cl_Mo (by decide) (ab_mem (List.mem_append_right _ (List.mem_of_getElem? (i := 661) rfl)) rfl) rfl (by decide +kernel)
set_option maxRecDepth 20000 in
theorem ff_Mo_65 : ab_F "HiddenRowsModel" 65 9 26 true (.array .int) := ab_F_mk cl_Mo (by decide) (ab_mem (List.mem_append_right _ (List.mem_of_getElem? (i := 662) rfl)) rfl) rfl (by decide +kernel)
set_option maxRecDepth 20000 in
theorem ff_Mo_68 : ab_F "HiddenRowsModel" 68 9 9 false .boolean := ab_F_mk cl_Mo (by decide) (ab_mem (List.mem_append_right _ (List.mem_of_getElem? (i := 645) rfl)) rfl) rfl (by decide +kernel)
set_option maxRecDepth 20000 in
theorem ff_Mo_72 : ab_F "HiddenRowsModel" 72 9 10 false .boolean := ab_F_mk cl_Mo (by decide) (ab_mem (List.mem_append_right _ (List.mem_of_getElem? (i := 646) rfl)) rfl) rfl (by decide +kernel)
set_option maxRecDepth 20000 in
theorem ff_Mo_75 : ab_F "HiddenRowsModel" 75 9 0 false .int := ab_F_mk cl_Mo (by decide) (ab_mem (List.mem_append_right _ (List.mem_of_getElem? (i := 636) rfl)) rfl) rfl (by decide +kernel)
set_option maxRecDepth 20000 in
theorem ff_Mo_79 : ab_F "HiddenRowsModel" 79 9 3 false .int := ab_F_mk cl_Mo (by decide) (ab_mem (List.mem_append_right _ (List.mem_of_getElem? (i := 639) rfl)) rfl) rfl (by decide +kernel)
set_option maxRecDepth 20000 in
theorem ff_Mo_82 : ab_F "HiddenRowsModel" 82 9 6 false .int := ab_F_mk cl_Mo (by decide) (ab_mem (List.mem_append_right _ (List.mem_of_getElem? (i := 642) rfl)) rfl) rfl (by decide +kernel)
set_option maxRecDepth 20000 in
theorem ff_Mo_113 : ab_F "HiddenRowsModel" 113 9 17 false .int := ab_F_mk cl_Mo (by decide) (ab_mem (List.mem_append_right _ (List.mem_of_getElem? (i := 653) rfl)) rfl) rfl (by decide +kernel)
set_option maxRecDepth 20000 in
theorem ff_Mo_116 : ab_F "HiddenRowsModel" 116 9 12 false .long := ab_F_mk cl_Mo (by decide) (ab_mem (List.mem_append_right _ (List.mem_of_getElem? (i := 648) rfl)) rfl) rfl (by decide +kernel)
set_option maxRecDepth 20000 in
theorem ff_Mo_120 : ab_F "HiddenRowsModel" 120 9 13 false .int := ab_F_mk cl_Mo (by decide) (ab_mem (List.mem_append_right _ (List.mem_of_getElem? (i := 649) rfl)) rfl) rfl (by decide +kernel)
theorem kc_H_123 : Cond.constantLong "HiddenRows" 123 (-1) ∈ ab_tbl := (ab_mem (List.mem_append_right _ (List.mem_of_getElem? (i := 416) rfl)) rfl)
theorem kc_H_128 : Cond.constantLong "HiddenRows" 128 (-2) ∈ ab_tbl := (ab_mem (List.mem_append_right _ (List.mem_of_getElem? (i := 420) rfl)) rfl)
theorem kc_H_157 : Cond.constantLong "HiddenRows" 157 (-3) ∈ ab_tbl := (ab_mem (List.mem_append_right _ (List.mem_of_getElem? (i := 431) rfl)) rfl)
set_option maxRecDepth 20000 in
theorem kc_Dr_44 : Cond.constant "HiddenRows$Drawing" 44 (1664525) ∈ ab_tbl := (ab_mem (List.mem_append_right _ (List.mem_of_getElem? (i := 510) rfl)) rfl)
set_option maxRecDepth 20000 in
theorem kc_Dr_45 : Cond.constant "HiddenRows$Drawing" 45 (1013904223) ∈ ab_tbl := (ab_mem (List.mem_append_right _ (List.mem_of_getElem? (i := 511) rfl)) rfl)
set_option maxRecDepth 20000 in
theorem kc_Dr_46 : Cond.constantLong "HiddenRows$Drawing" 46 (2147483648) ∈ ab_tbl := (ab_mem (List.mem_append_right _ (List.mem_of_getElem? (i := 512) rfl)) rfl)
set_option maxRecDepth 20000 in
theorem kc_Mo_145 : Cond.constantLong "HiddenRowsModel" 145 (-1) ∈ ab_tbl := (ab_mem (List.mem_append_right _ (List.mem_of_getElem? (i := 817) rfl)) rfl)
set_option maxRecDepth 20000 in
theorem kc_Mo_147 : Cond.constantLong "HiddenRowsModel" 147 (-2) ∈ ab_tbl := (ab_mem (List.mem_append_right _ (List.mem_of_getElem? (i := 818) rfl)) rfl)
set_option maxRecDepth 20000 in
theorem kc_Mo_149 : Cond.constantLong "HiddenRowsModel" 149 (-3) ∈ ab_tbl := (ab_mem (List.mem_append_right _ (List.mem_of_getElem? (i := 819) rfl)) rfl)
set_option maxRecDepth 20000 in
theorem kc_Mo_155 : Cond.constant "HiddenRowsModel" 155 (1664525) ∈ ab_tbl := (ab_mem (List.mem_append_right _ (List.mem_of_getElem? (i := 850) rfl)) rfl)
set_option maxRecDepth 20000 in
theorem kc_Mo_156 : Cond.constant "HiddenRowsModel" 156 (1013904223) ∈ ab_tbl := (ab_mem (List.mem_append_right _ (List.mem_of_getElem? (i := 851) rfl)) rfl)
set_option maxRecDepth 20000 in
theorem kc_Mo_157 : Cond.constantLong "HiddenRowsModel" 157 (2147483648) ∈ ab_tbl := (ab_mem (List.mem_append_right _ (List.mem_of_getElem? (i := 852) rfl)) rfl)
theorem lk_H_3 : Cond.methodLink "HiddenRows" 3 ⟨"java/lang/Object", "<init>", "()V"⟩ ∈ ab_tbl := (ab_mem (List.mem_append_right _ (List.mem_of_getElem? (i := 17) rfl)) rfl)
theorem lk_H_25 : Cond.methodLink "HiddenRows" 25 ⟨"HiddenRows$WaySums", "<init>", "(LHiddenRows$Row;LHiddenRows$States;I)V"⟩ ∈ ab_tbl := (ab_mem (List.mem_append_right _ (List.mem_of_getElem? (i := 78) rfl)) rfl)
theorem lk_H_37 : Cond.methodLink "HiddenRows" 37 ⟨"HiddenRows$BestWays", "<init>", "(LHiddenRows$Row;LHiddenRows$States;LHiddenRows$WaySums;)V"⟩ ∈ ab_tbl := (ab_mem (List.mem_append_right _ (List.mem_of_getElem? (i := 117) rfl)) rfl)
theorem lk_H_46 : Cond.methodLink "HiddenRows" 46 ⟨"HiddenRows$Drawing", "<init>", "(LHiddenRows$Row;LHiddenRows$States;LHiddenRows$WaySums;)V"⟩ ∈ ab_tbl := (ab_mem (List.mem_append_right _ (List.mem_of_getElem? (i := 166) rfl)) rfl)
theorem lk_H_60 : Cond.methodLink "HiddenRows" 60 ⟨"HiddenRows$TreeTables", "<init>", "(LHiddenRows$Row;LHiddenRows$Kinds;)V"⟩ ∈ ab_tbl := (ab_mem (List.mem_append_right _ (List.mem_of_getElem? (i := 224) rfl)) rfl)
theorem lk_H_71 : Cond.methodLink "HiddenRows" 71 ⟨"HiddenRows", "forgetWays", "()V"⟩ ∈ ab_tbl := (ab_mem (List.mem_append_right _ (List.mem_of_getElem? (i := 290) rfl)) rfl)
theorem lk_H_74 : Cond.methodLink "HiddenRows" 74 ⟨"HiddenRows$States", "addOne", "()I"⟩ ∈ ab_tbl := (ab_mem (List.mem_append_right _ (List.mem_of_getElem? (i := 294) rfl)) rfl)
theorem lk_H_78 : Cond.methodLink "HiddenRows" 78 ⟨"HiddenRows$States", "has", "(I)Z"⟩ ∈ ab_tbl := (ab_mem (List.mem_append_right _ (List.mem_of_getElem? (i := 302) rfl)) rfl)
theorem lk_H_82 : Cond.methodLink "HiddenRows" 82 ⟨"HiddenRows", "isWeight", "(I)Z"⟩ ∈ ab_tbl := (ab_mem (List.mem_append_right _ (List.mem_of_getElem? (i := 306) rfl)) rfl)
theorem lk_H_93 : Cond.methodLink "HiddenRows" 93 ⟨"HiddenRows", "forgetTrees", "()V"⟩ ∈ ab_tbl := (ab_mem (List.mem_append_right _ (List.mem_of_getElem? (i := 317) rfl)) rfl)
theorem lk_H_96 : Cond.methodLink "HiddenRows" 96 ⟨"HiddenRows$Kinds", "has", "(I)Z"⟩ ∈ ab_tbl := (ab_mem (List.mem_append_right _ (List.mem_of_getElem? (i := 325) rfl)) rfl)
theorem lk_H_97 : Cond.methodLink "HiddenRows" 97 ⟨"HiddenRows$Kinds", "parts", "(II)I"⟩ ∈ ab_tbl := (ab_mem (List.mem_append_right _ (List.mem_of_getElem? (i := 329) rfl)) rfl)
theorem lk_H_110 : Cond.methodLink "HiddenRows" 110 ⟨"HiddenRows$Row", "append", "(I)V"⟩ ∈ ab_tbl := (ab_mem (List.mem_append_right _ (List.mem_of_getElem? (i := 340) rfl)) rfl)
theorem lk_H_114 : Cond.methodLink "HiddenRows" 114 ⟨"HiddenRows$Row", "has", "(I)Z"⟩ ∈ ab_tbl := (ab_mem (List.mem_append_right _ (List.mem_of_getElem? (i := 352) rfl)) rfl)
theorem lk_H_119 : Cond.methodLink "HiddenRows" 119 ⟨"HiddenRows$WaySums", "whole", "()J"⟩ ∈ ab_tbl := (ab_mem (List.mem_append_right _ (List.mem_of_getElem? (i := 360) rfl)) rfl)
theorem lk_H_125 : Cond.methodLink "HiddenRows" 125 ⟨"HiddenRows", "isPart", "(I)Z"⟩ ∈ ab_tbl := (ab_mem (List.mem_append_right _ (List.mem_of_getElem? (i := 417) rfl)) rfl)
theorem lk_H_130 : Cond.methodLink "HiddenRows" 130 ⟨"HiddenRows$WaySums", "over", "(II)J"⟩ ∈ ab_tbl := (ab_mem (List.mem_append_right _ (List.mem_of_getElem? (i := 421) rfl)) rfl)
theorem lk_H_134 : Cond.methodLink "HiddenRows" 134 ⟨"HiddenRows", "lowestTerms", "(JJI)J"⟩ ∈ ab_tbl := (ab_mem (List.mem_append_right _ (List.mem_of_getElem? (i := 428) rfl)) rfl)
theorem lk_H_138 : Cond.methodLink "HiddenRows" 138 ⟨"HiddenRows$WaySums", "beginning", "(II)J"⟩ ∈ ab_tbl := (ab_mem (List.mem_append_right _ (List.mem_of_getElem? (i := 439) rfl)) rfl)
theorem lk_H_141 : Cond.methodLink "HiddenRows" 141 ⟨"HiddenRows$WaySums", "moving", "(III)J"⟩ ∈ ab_tbl := (ab_mem (List.mem_append_right _ (List.mem_of_getElem? (i := 447) rfl)) rfl)
set_option maxRecDepth 20000 in
theorem lk_H_145 : Cond.methodLink "HiddenRows" 145 ⟨"HiddenRows$BestWays", "list", "()LHiddenRows$WayList;"⟩ ∈ ab_tbl := (ab_mem (List.mem_append_right _ (List.mem_of_getElem? (i := 459) rfl)) rfl)
set_option maxRecDepth 20000 in
theorem lk_H_162 : Cond.methodLink "HiddenRows" 162 ⟨"HiddenRows$Row", "toldAt", "(II)I"⟩ ∈ ab_tbl := (ab_mem (List.mem_append_right _ (List.mem_of_getElem? (i := 499) rfl)) rfl)
set_option maxRecDepth 20000 in
theorem lk_H_165 : Cond.methodLink "HiddenRows" 165 ⟨"HiddenRows$Drawing", "spread", "(I)J"⟩ ∈ ab_tbl := (ab_mem (List.mem_append_right _ (List.mem_of_getElem? (i := 507) rfl)) rfl)
set_option maxRecDepth 20000 in
theorem lk_H_169 : Cond.methodLink "HiddenRows" 169 ⟨"HiddenRows$Drawing", "draw", "(J)J"⟩ ∈ ab_tbl := (ab_mem (List.mem_append_right _ (List.mem_of_getElem? (i := 513) rfl)) rfl)
set_option maxRecDepth 20000 in
theorem lk_H_179 : Cond.methodLink "HiddenRows" 179 ⟨"HiddenRows$TreeTables", "sumOfAll", "(I)J"⟩ ∈ ab_tbl := (ab_mem (List.mem_append_right _ (List.mem_of_getElem? (i := 548) rfl)) rfl)
set_option maxRecDepth 20000 in
theorem lk_H_182 : Cond.methodLink "HiddenRows" 182 ⟨"HiddenRows$TreeTables", "countOfAll", "(I)J"⟩ ∈ ab_tbl := (ab_mem (List.mem_append_right _ (List.mem_of_getElem? (i := 582) rfl)) rfl)
set_option maxRecDepth 20000 in
theorem lk_H_185 : Cond.methodLink "HiddenRows" 185 ⟨"HiddenRows$TreeTables", "bestOfAll", "(I)J"⟩ ∈ ab_tbl := (ab_mem (List.mem_append_right _ (List.mem_of_getElem? (i := 590) rfl)) rfl)
set_option maxRecDepth 20000 in
theorem lk_H_188 : Cond.methodLink "HiddenRows" 188 ⟨"HiddenRows$TreeTables", "bestTells", "(II)I"⟩ ∈ ab_tbl := (ab_mem (List.mem_append_right _ (List.mem_of_getElem? (i := 598) rfl)) rfl)
set_option maxRecDepth 20000 in
theorem lk_H_191 : Cond.methodLink "HiddenRows" 191 ⟨"HiddenRows$TreeTables", "sumWith", "(IIII)J"⟩ ∈ ab_tbl := (ab_mem (List.mem_append_right _ (List.mem_of_getElem? (i := 618) rfl)) rfl)
theorem lk_H_198 : Cond.methodLink "HiddenRows" 198 ⟨"HiddenRows", "commonDivisor", "(JJ)J"⟩ ∈ ab_tbl := (ab_mem (List.mem_append_right _ (List.mem_of_getElem? (i := 432) rfl)) rfl)
theorem lk_Bw_3 : Cond.methodLink "HiddenRows$BestWays" 3 ⟨"java/lang/Object", "<init>", "()V"⟩ ∈ ab_tbl := (ab_mem (List.mem_append_right _ (List.mem_of_getElem? (i := 120) rfl)) rfl)
set_option maxRecDepth 20000 in
theorem lk_Bw_38 : Cond.methodLink "HiddenRows$BestWays" 38 ⟨"HiddenRows$WaySums", "refresh", "()V"⟩ ∈ ab_tbl := (ab_mem (List.mem_append_right _ (List.mem_of_getElem? (i := 463) rfl)) rfl)
set_option maxRecDepth 20000 in
theorem lk_Bw_54 : Cond.methodLink "HiddenRows$BestWays" 54 ⟨"HiddenRows$BestWays", "listEnds", "(II)V"⟩ ∈ ab_tbl := (ab_mem (List.mem_append_right _ (List.mem_of_getElem? (i := 464) rfl)) rfl)
set_option maxRecDepth 20000 in
theorem lk_Bw_58 : Cond.methodLink "HiddenRows$BestWays" 58 ⟨"HiddenRows$BestWays", "listWhole", "()V"⟩ ∈ ab_tbl := (ab_mem (List.mem_append_right _ (List.mem_of_getElem? (i := 491) rfl)) rfl)
set_option maxRecDepth 20000 in
theorem lk_Bw_68 : Cond.methodLink "HiddenRows$BestWays" 68 ⟨"HiddenRows$BestWays", "endsFrom", "(II)LHiddenRows$WayList;"⟩ ∈ ab_tbl := (ab_mem (List.mem_append_right _ (List.mem_of_getElem? (i := 468) rfl)) rfl)
set_option maxRecDepth 20000 in
theorem lk_Bw_72 : Cond.methodLink "HiddenRows$BestWays" 72 ⟨"HiddenRows$BestWays", "offerAll", "(LHiddenRows$WayList;JILHiddenRows$WayList;)V"⟩ ∈ ab_tbl := (ab_mem (List.mem_append_right _ (List.mem_of_getElem? (i := 488) rfl)) rfl)
set_option maxRecDepth 20000 in
theorem lk_Bw_76 : Cond.methodLink "HiddenRows$BestWays" 76 ⟨"HiddenRows$WaySums", "segment", "(III)J"⟩ ∈ ab_tbl := (ab_mem (List.mem_append_right _ (List.mem_of_getElem? (i := 472) rfl)) rfl)
set_option maxRecDepth 20000 in
theorem lk_Bw_80 : Cond.methodLink "HiddenRows$BestWays" 80 ⟨"HiddenRows$WayList", "offer", "(JI)Z"⟩ ∈ ab_tbl := (ab_mem (List.mem_append_right _ (List.mem_of_getElem? (i := 473) rfl)) rfl)
set_option maxRecDepth 20000 in
theorem lk_Bw_84 : Cond.methodLink "HiddenRows$BestWays" 84 ⟨"HiddenRows$BestWays", "offerMoves", "(LHiddenRows$WayList;JIII)V"⟩ ∈ ab_tbl := (ab_mem (List.mem_append_right _ (List.mem_of_getElem? (i := 484) rfl)) rfl)
theorem lk_Dr_3 : Cond.methodLink "HiddenRows$Drawing" 3 ⟨"java/lang/Object", "<init>", "()V"⟩ ∈ ab_tbl := (ab_mem (List.mem_append_right _ (List.mem_of_getElem? (i := 169) rfl)) rfl)
set_option maxRecDepth 20000 in
theorem lk_Dr_48 : Cond.methodLink "HiddenRows$Drawing" 48 ⟨"HiddenRows$WaySums", "refresh", "()V"⟩ ∈ ab_tbl := (ab_mem (List.mem_append_right _ (List.mem_of_getElem? (i := 517) rfl)) rfl)
set_option maxRecDepth 20000 in
theorem lk_Dr_58 : Cond.methodLink "HiddenRows$Drawing" 58 ⟨"HiddenRows$Drawing", "openSegment", "(I)J"⟩ ∈ ab_tbl := (ab_mem (List.mem_append_right _ (List.mem_of_getElem? (i := 518) rfl)) rfl)
set_option maxRecDepth 20000 in
theorem lk_Dr_62 : Cond.methodLink "HiddenRows$Drawing" 62 ⟨"HiddenRows$Drawing", "tellPlace", "(IJ)J"⟩ ∈ ab_tbl := (ab_mem (List.mem_append_right _ (List.mem_of_getElem? (i := 523) rfl)) rfl)
set_option maxRecDepth 20000 in
theorem lk_Dr_75 : Cond.methodLink "HiddenRows$Drawing" 75 ⟨"HiddenRows$Drawing", "sumTelling", "(II)J"⟩ ∈ ab_tbl := (ab_mem (List.mem_append_right _ (List.mem_of_getElem? (i := 527) rfl)) rfl)
set_option maxRecDepth 20000 in
theorem lk_Dr_79 : Cond.methodLink "HiddenRows$Drawing" 79 ⟨"HiddenRows$Drawing", "take", "(II)V"⟩ ∈ ab_tbl := (ab_mem (List.mem_append_right _ (List.mem_of_getElem? (i := 536) rfl)) rfl)
set_option maxRecDepth 20000 in
theorem lk_Dr_83 : Cond.methodLink "HiddenRows$Drawing" 83 ⟨"HiddenRows$Drawing", "closing", "(II)J"⟩ ∈ ab_tbl := (ab_mem (List.mem_append_right _ (List.mem_of_getElem? (i := 531) rfl)) rfl)
set_option maxRecDepth 20000 in
theorem lk_Dr_90 : Cond.methodLink "HiddenRows$Drawing" 90 ⟨"HiddenRows$WaySums", "longerThan", "(III)J"⟩ ∈ ab_tbl := (ab_mem (List.mem_append_right _ (List.mem_of_getElem? (i := 535) rfl)) rfl)
set_option maxRecDepth 20000 in
theorem lk_Dr_97 : Cond.methodLink "HiddenRows$Drawing" 97 ⟨"HiddenRows$WaySums", "segment", "(III)J"⟩ ∈ ab_tbl := (ab_mem (List.mem_append_right _ (List.mem_of_getElem? (i := 522) rfl)) rfl)
theorem lk_Ki_3 : Cond.methodLink "HiddenRows$Kinds" 3 ⟨"java/lang/Object", "<init>", "()V"⟩ ∈ ab_tbl := (ab_mem (List.mem_append_right _ (List.mem_of_getElem? (i := 205) rfl)) rfl)
theorem lk_Ro_3 : Cond.methodLink "HiddenRows$Row" 3 ⟨"java/lang/Object", "<init>", "()V"⟩ ∈ ab_tbl := (ab_mem (List.mem_append_right _ (List.mem_of_getElem? (i := 25) rfl)) rfl)
theorem lk_St_3 : Cond.methodLink "HiddenRows$States" 3 ⟨"java/lang/Object", "<init>", "()V"⟩ ∈ ab_tbl := (ab_mem (List.mem_append_right _ (List.mem_of_getElem? (i := 51) rfl)) rfl)
theorem lk_Tt_3 : Cond.methodLink "HiddenRows$TreeTables" 3 ⟨"java/lang/Object", "<init>", "()V"⟩ ∈ ab_tbl := (ab_mem (List.mem_append_right _ (List.mem_of_getElem? (i := 227) rfl)) rfl)
set_option maxRecDepth 20000 in
theorem lk_Tt_48 : Cond.methodLink "HiddenRows$TreeTables" 48 ⟨"HiddenRows$TreeTables", "refresh", "()V"⟩ ∈ ab_tbl := (ab_mem (List.mem_append_right _ (List.mem_of_getElem? (i := 552) rfl)) rfl)
set_option maxRecDepth 20000 in
theorem lk_Tt_56 : Cond.methodLink "HiddenRows$TreeTables" 56 ⟨"HiddenRows$TreeTables", "spanOf", "(II)I"⟩ ∈ ab_tbl := (ab_mem (List.mem_append_right _ (List.mem_of_getElem? (i := 560) rfl)) rfl)
set_option maxRecDepth 20000 in
theorem lk_Tt_64 : Cond.methodLink "HiddenRows$TreeTables" 64 ⟨"HiddenRows$TreeTables", "fill", "(III)V"⟩ ∈ ab_tbl := (ab_mem (List.mem_append_right _ (List.mem_of_getElem? (i := 556) rfl)) rfl)
set_option maxRecDepth 20000 in
theorem lk_Tt_71 : Cond.methodLink "HiddenRows$TreeTables" 71 ⟨"HiddenRows$Kinds", "leafOf", "(II)I"⟩ ∈ ab_tbl := (ab_mem (List.mem_append_right _ (List.mem_of_getElem? (i := 563) rfl)) rfl)
set_option maxRecDepth 20000 in
theorem lk_Tt_74 : Cond.methodLink "HiddenRows$TreeTables" 74 ⟨"java/lang/Math", "min", "(JJ)J"⟩ ∈ ab_tbl := (ab_mem (List.mem_append_right _ (List.mem_of_getElem? (i := 567) rfl)) rfl)
set_option maxRecDepth 20000 in
theorem lk_Tt_80 : Cond.methodLink "HiddenRows$TreeTables" 80 ⟨"HiddenRows$TreeTables", "addSplit", "(IIII)V"⟩ ∈ ab_tbl := (ab_mem (List.mem_append_right _ (List.mem_of_getElem? (i := 570) rfl)) rfl)
set_option maxRecDepth 20000 in
theorem lk_Tt_88 : Cond.methodLink "HiddenRows$TreeTables" 88 ⟨"HiddenRows$Kinds", "parts", "(II)I"⟩ ∈ ab_tbl := (ab_mem (List.mem_append_right _ (List.mem_of_getElem? (i := 574) rfl)) rfl)
set_option maxRecDepth 20000 in
theorem lk_Tt_91 : Cond.methodLink "HiddenRows$TreeTables" 91 ⟨"java/lang/Math", "max", "(JJ)J"⟩ ∈ ab_tbl := (ab_mem (List.mem_append_right _ (List.mem_of_getElem? (i := 575) rfl)) rfl)
set_option maxRecDepth 20000 in
theorem lk_Tt_94 : Cond.methodLink "HiddenRows$TreeTables" 94 ⟨"HiddenRows$TreeTables", "push", "(II)V"⟩ ∈ ab_tbl := (ab_mem (List.mem_append_right _ (List.mem_of_getElem? (i := 602) rfl)) rfl)
set_option maxRecDepth 20000 in
theorem lk_Tt_98 : Cond.methodLink "HiddenRows$TreeTables" 98 ⟨"HiddenRows$TreeTables", "tellNode", "(II)I"⟩ ∈ ab_tbl := (ab_mem (List.mem_append_right _ (List.mem_of_getElem? (i := 606) rfl)) rfl)
set_option maxRecDepth 20000 in
theorem lk_Tt_101 : Cond.methodLink "HiddenRows$TreeTables" 101 ⟨"HiddenRows$TreeTables", "bestParts", "(IIII)I"⟩ ∈ ab_tbl := (ab_mem (List.mem_append_right _ (List.mem_of_getElem? (i := 610) rfl)) rfl)
set_option maxRecDepth 20000 in
theorem lk_Tt_105 : Cond.methodLink "HiddenRows$TreeTables" 105 ⟨"HiddenRows$TreeTables", "addAround", "(IIII)V"⟩ ∈ ab_tbl := (ab_mem (List.mem_append_right _ (List.mem_of_getElem? (i := 622) rfl)) rfl)
set_option maxRecDepth 20000 in
theorem lk_Tt_108 : Cond.methodLink "HiddenRows$TreeTables" 108 ⟨"HiddenRows$TreeTables", "addProducts", "(I[[JI[[JI)V"⟩ ∈ ab_tbl := (ab_mem (List.mem_append_right _ (List.mem_of_getElem? (i := 626) rfl)) rfl)
theorem lk_Wl_3 : Cond.methodLink "HiddenRows$WayList" 3 ⟨"java/lang/Object", "<init>", "()V"⟩ ∈ ab_tbl := (ab_mem (List.mem_append_right _ (List.mem_of_getElem? (i := 127) rfl)) rfl)
set_option maxRecDepth 20000 in
theorem lk_Wl_23 : Cond.methodLink "HiddenRows$WayList" 23 ⟨"HiddenRows$WayList", "isBetter", "(JII)Z"⟩ ∈ ab_tbl := (ab_mem (List.mem_append_right _ (List.mem_of_getElem? (i := 477) rfl)) rfl)
set_option maxRecDepth 20000 in
theorem lk_Wl_27 : Cond.methodLink "HiddenRows$WayList" 27 ⟨"java/lang/Math", "min", "(II)I"⟩ ∈ ab_tbl := (ab_mem (List.mem_append_right _ (List.mem_of_getElem? (i := 481) rfl)) rfl)
theorem lk_Ws_3 : Cond.methodLink "HiddenRows$WaySums" 3 ⟨"java/lang/Object", "<init>", "()V"⟩ ∈ ab_tbl := (ab_mem (List.mem_append_right _ (List.mem_of_getElem? (i := 81) rfl)) rfl)
theorem lk_Ws_44 : Cond.methodLink "HiddenRows$WaySums" 44 ⟨"HiddenRows$WaySums", "refresh", "()V"⟩ ∈ ab_tbl := (ab_mem (List.mem_append_right _ (List.mem_of_getElem? (i := 364) rfl)) rfl)
theorem lk_Ws_57 : Cond.methodLink "HiddenRows$WaySums" 57 ⟨"java/lang/Math", "max", "(II)I"⟩ ∈ ab_tbl := (ab_mem (List.mem_append_right _ (List.mem_of_getElem? (i := 425) rfl)) rfl)
theorem lk_Ws_63 : Cond.methodLink "HiddenRows$WaySums" 63 ⟨"HiddenRows$WaySums", "longerThan", "(III)J"⟩ ∈ ab_tbl := (ab_mem (List.mem_append_right _ (List.mem_of_getElem? (i := 384) rfl)) rfl)
theorem lk_Ws_71 : Cond.methodLink "HiddenRows$WaySums" 71 ⟨"HiddenRows$WaySums", "cut", "(I)J"⟩ ∈ ab_tbl := (ab_mem (List.mem_append_right _ (List.mem_of_getElem? (i := 376) rfl)) rfl)
theorem lk_Ws_75 : Cond.methodLink "HiddenRows$WaySums" 75 ⟨"HiddenRows$WaySums", "segment", "(III)J"⟩ ∈ ab_tbl := (ab_mem (List.mem_append_right _ (List.mem_of_getElem? (i := 388) rfl)) rfl)
theorem lk_Ws_81 : Cond.methodLink "HiddenRows$WaySums" 81 ⟨"HiddenRows$WaySums", "showPlaces", "()V"⟩ ∈ ab_tbl := (ab_mem (List.mem_append_right _ (List.mem_of_getElem? (i := 368) rfl)) rfl)
theorem lk_Ws_84 : Cond.methodLink "HiddenRows$WaySums" 84 ⟨"HiddenRows$WaySums", "sumFromBehind", "()V"⟩ ∈ ab_tbl := (ab_mem (List.mem_append_right _ (List.mem_of_getElem? (i := 380) rfl)) rfl)
theorem lk_Ws_87 : Cond.methodLink "HiddenRows$WaySums" 87 ⟨"HiddenRows$WaySums", "sumFromAhead", "()V"⟩ ∈ ab_tbl := (ab_mem (List.mem_append_right _ (List.mem_of_getElem? (i := 396) rfl)) rfl)
theorem lk_Ws_90 : Cond.methodLink "HiddenRows$WaySums" 90 ⟨"HiddenRows$WaySums", "showOf", "(II)J"⟩ ∈ ab_tbl := (ab_mem (List.mem_append_right _ (List.mem_of_getElem? (i := 372) rfl)) rfl)
theorem lk_Ws_101 : Cond.methodLink "HiddenRows$WaySums" 101 ⟨"HiddenRows$WaySums", "movedOutOf", "(II)J"⟩ ∈ ab_tbl := (ab_mem (List.mem_append_right _ (List.mem_of_getElem? (i := 392) rfl)) rfl)
theorem lk_Ws_104 : Cond.methodLink "HiddenRows$WaySums" 104 ⟨"HiddenRows$WaySums", "movedInto", "(II)J"⟩ ∈ ab_tbl := (ab_mem (List.mem_append_right _ (List.mem_of_getElem? (i := 400) rfl)) rfl)
theorem lk_Ws_107 : Cond.methodLink "HiddenRows$WaySums" 107 ⟨"HiddenRows$WaySums", "endedBefore", "(II)J"⟩ ∈ ab_tbl := (ab_mem (List.mem_append_right _ (List.mem_of_getElem? (i := 404) rfl)) rfl)
theorem lk_La_9 : Cond.methodLink "HiddenRowsLaw" 9 ⟨"HiddenRows", "<init>", "()V"⟩ ∈ ab_tbl := (ab_mem (List.mem_append_right _ (List.mem_of_getElem? (i := 14) rfl)) rfl)
set_option maxRecDepth 20000 in
theorem lk_La_12 : Cond.methodLink "HiddenRowsLaw" 12 ⟨"HiddenRowsModel", "<init>", "()V"⟩ ∈ ab_tbl := (ab_mem (List.mem_append_right _ (List.mem_of_getElem? (i := 632) rfl)) rfl)
theorem lk_La_13 : Cond.methodLink "HiddenRowsLaw" 13 ⟨"HiddenRows", "state", "()I"⟩ ∈ ab_tbl := (ab_mem (List.mem_append_right _ (List.mem_of_getElem? (i := 286) rfl)) rfl)
set_option maxRecDepth 20000 in
theorem lk_La_17 : Cond.methodLink "HiddenRowsLaw" 17 ⟨"HiddenRowsModel", "state", "()I"⟩ ∈ ab_tbl := (ab_mem (List.mem_append_right _ (List.mem_of_getElem? (i := 718) rfl)) rfl)
theorem lk_La_18 : Cond.methodLink "HiddenRowsLaw" 18 ⟨"HiddenRows", "weight", "(III)I"⟩ ∈ ab_tbl := (ab_mem (List.mem_append_right _ (List.mem_of_getElem? (i := 298) rfl)) rfl)
set_option maxRecDepth 20000 in
theorem lk_La_22 : Cond.methodLink "HiddenRowsLaw" 22 ⟨"HiddenRowsModel", "weight", "(III)I"⟩ ∈ ab_tbl := (ab_mem (List.mem_append_right _ (List.mem_of_getElem? (i := 726) rfl)) rfl)
theorem lk_La_23 : Cond.methodLink "HiddenRowsLaw" 23 ⟨"HiddenRows", "move", "(III)I"⟩ ∈ ab_tbl := (ab_mem (List.mem_append_right _ (List.mem_of_getElem? (i := 309) rfl)) rfl)
set_option maxRecDepth 20000 in
theorem lk_La_26 : Cond.methodLink "HiddenRowsLaw" 26 ⟨"HiddenRowsModel", "move", "(III)I"⟩ ∈ ab_tbl := (ab_mem (List.mem_append_right _ (List.mem_of_getElem? (i := 737) rfl)) rfl)
theorem lk_La_27 : Cond.methodLink "HiddenRowsLaw" 27 ⟨"HiddenRows", "kind", "()I"⟩ ∈ ab_tbl := (ab_mem (List.mem_append_right _ (List.mem_of_getElem? (i := 313) rfl)) rfl)
set_option maxRecDepth 20000 in
theorem lk_La_30 : Cond.methodLink "HiddenRowsLaw" 30 ⟨"HiddenRowsModel", "kind", "()I"⟩ ∈ ab_tbl := (ab_mem (List.mem_append_right _ (List.mem_of_getElem? (i := 741) rfl)) rfl)
theorem lk_La_31 : Cond.methodLink "HiddenRowsLaw" 31 ⟨"HiddenRows", "rule", "(IIII)I"⟩ ∈ ab_tbl := (ab_mem (List.mem_append_right _ (List.mem_of_getElem? (i := 321) rfl)) rfl)
set_option maxRecDepth 20000 in
theorem lk_La_35 : Cond.methodLink "HiddenRowsLaw" 35 ⟨"HiddenRowsModel", "rule", "(IIII)I"⟩ ∈ ab_tbl := (ab_mem (List.mem_append_right _ (List.mem_of_getElem? (i := 745) rfl)) rfl)
theorem lk_La_36 : Cond.methodLink "HiddenRowsLaw" 36 ⟨"HiddenRows", "leaf", "(III)I"⟩ ∈ ab_tbl := (ab_mem (List.mem_append_right _ (List.mem_of_getElem? (i := 332) rfl)) rfl)
set_option maxRecDepth 20000 in
theorem lk_La_39 : Cond.methodLink "HiddenRowsLaw" 39 ⟨"HiddenRowsModel", "leaf", "(III)I"⟩ ∈ ab_tbl := (ab_mem (List.mem_append_right _ (List.mem_of_getElem? (i := 753) rfl)) rfl)
theorem lk_La_40 : Cond.methodLink "HiddenRowsLaw" 40 ⟨"HiddenRows", "sign", "(I)I"⟩ ∈ ab_tbl := (ab_mem (List.mem_append_right _ (List.mem_of_getElem? (i := 336) rfl)) rfl)
set_option maxRecDepth 20000 in
theorem lk_La_44 : Cond.methodLink "HiddenRowsLaw" 44 ⟨"HiddenRowsModel", "sign", "(I)I"⟩ ∈ ab_tbl := (ab_mem (List.mem_append_right _ (List.mem_of_getElem? (i := 757) rfl)) rfl)
theorem lk_La_45 : Cond.methodLink "HiddenRowsLaw" 45 ⟨"HiddenRows", "clear", "()I"⟩ ∈ ab_tbl := (ab_mem (List.mem_append_right _ (List.mem_of_getElem? (i := 344) rfl)) rfl)
set_option maxRecDepth 20000 in
theorem lk_La_48 : Cond.methodLink "HiddenRowsLaw" 48 ⟨"HiddenRowsModel", "clear", "()I"⟩ ∈ ab_tbl := (ab_mem (List.mem_append_right _ (List.mem_of_getElem? (i := 761) rfl)) rfl)
theorem lk_La_49 : Cond.methodLink "HiddenRowsLaw" 49 ⟨"HiddenRows", "hold", "(II)I"⟩ ∈ ab_tbl := (ab_mem (List.mem_append_right _ (List.mem_of_getElem? (i := 348) rfl)) rfl)
set_option maxRecDepth 20000 in
theorem lk_La_53 : Cond.methodLink "HiddenRowsLaw" 53 ⟨"HiddenRowsModel", "hold", "(II)I"⟩ ∈ ab_tbl := (ab_mem (List.mem_append_right _ (List.mem_of_getElem? (i := 765) rfl)) rfl)
theorem lk_La_54 : Cond.methodLink "HiddenRowsLaw" 54 ⟨"HiddenRows", "total", "()J"⟩ ∈ ab_tbl := (ab_mem (List.mem_append_right _ (List.mem_of_getElem? (i := 356) rfl)) rfl)
set_option maxRecDepth 20000 in
theorem lk_La_58 : Cond.methodLink "HiddenRowsLaw" 58 ⟨"HiddenRowsModel", "total", "()J"⟩ ∈ ab_tbl := (ab_mem (List.mem_append_right _ (List.mem_of_getElem? (i := 773) rfl)) rfl)
theorem lk_La_59 : Cond.methodLink "HiddenRowsLaw" 59 ⟨"HiddenRows", "ways", "()I"⟩ ∈ ab_tbl := (ab_mem (List.mem_append_right _ (List.mem_of_getElem? (i := 408) rfl)) rfl)
set_option maxRecDepth 20000 in
theorem lk_La_62 : Cond.methodLink "HiddenRowsLaw" 62 ⟨"HiddenRowsModel", "ways", "()I"⟩ ∈ ab_tbl := (ab_mem (List.mem_append_right _ (List.mem_of_getElem? (i := 809) rfl)) rfl)
theorem lk_La_63 : Cond.methodLink "HiddenRowsLaw" 63 ⟨"HiddenRows", "share", "(III)J"⟩ ∈ ab_tbl := (ab_mem (List.mem_append_right _ (List.mem_of_getElem? (i := 412) rfl)) rfl)
set_option maxRecDepth 20000 in
theorem lk_La_67 : Cond.methodLink "HiddenRowsLaw" 67 ⟨"HiddenRowsModel", "share", "(III)J"⟩ ∈ ab_tbl := (ab_mem (List.mem_append_right _ (List.mem_of_getElem? (i := 813) rfl)) rfl)
theorem lk_La_68 : Cond.methodLink "HiddenRowsLaw" 68 ⟨"HiddenRows", "begin", "(III)J"⟩ ∈ ab_tbl := (ab_mem (List.mem_append_right _ (List.mem_of_getElem? (i := 435) rfl)) rfl)
set_option maxRecDepth 20000 in
theorem lk_La_71 : Cond.methodLink "HiddenRowsLaw" 71 ⟨"HiddenRowsModel", "begin", "(III)J"⟩ ∈ ab_tbl := (ab_mem (List.mem_append_right _ (List.mem_of_getElem? (i := 826) rfl)) rfl)
theorem lk_La_72 : Cond.methodLink "HiddenRowsLaw" 72 ⟨"HiddenRows", "pair", "(IIII)J"⟩ ∈ ab_tbl := (ab_mem (List.mem_append_right _ (List.mem_of_getElem? (i := 443) rfl)) rfl)
set_option maxRecDepth 20000 in
theorem lk_La_76 : Cond.methodLink "HiddenRowsLaw" 76 ⟨"HiddenRowsModel", "pair", "(IIII)J"⟩ ∈ ab_tbl := (ab_mem (List.mem_append_right _ (List.mem_of_getElem? (i := 830) rfl)) rfl)
set_option maxRecDepth 20000 in
theorem lk_La_77 : Cond.methodLink "HiddenRowsLaw" 77 ⟨"HiddenRows", "top", "(I)I"⟩ ∈ ab_tbl := (ab_mem (List.mem_append_right _ (List.mem_of_getElem? (i := 451) rfl)) rfl)
set_option maxRecDepth 20000 in
theorem lk_La_80 : Cond.methodLink "HiddenRowsLaw" 80 ⟨"HiddenRowsModel", "top", "(I)I"⟩ ∈ ab_tbl := (ab_mem (List.mem_append_right _ (List.mem_of_getElem? (i := 834) rfl)) rfl)
set_option maxRecDepth 20000 in
theorem lk_La_81 : Cond.methodLink "HiddenRowsLaw" 81 ⟨"HiddenRows", "best", "(I)J"⟩ ∈ ab_tbl := (ab_mem (List.mem_append_right _ (List.mem_of_getElem? (i := 455) rfl)) rfl)
set_option maxRecDepth 20000 in
theorem lk_La_85 : Cond.methodLink "HiddenRowsLaw" 85 ⟨"HiddenRowsModel", "best", "(I)J"⟩ ∈ ab_tbl := (ab_mem (List.mem_append_right _ (List.mem_of_getElem? (i := 838) rfl)) rfl)
set_option maxRecDepth 20000 in
theorem lk_La_86 : Cond.methodLink "HiddenRowsLaw" 86 ⟨"HiddenRows", "bestAt", "(II)I"⟩ ∈ ab_tbl := (ab_mem (List.mem_append_right _ (List.mem_of_getElem? (i := 495) rfl)) rfl)
set_option maxRecDepth 20000 in
theorem lk_La_89 : Cond.methodLink "HiddenRowsLaw" 89 ⟨"HiddenRowsModel", "bestAt", "(II)I"⟩ ∈ ab_tbl := (ab_mem (List.mem_append_right _ (List.mem_of_getElem? (i := 842) rfl)) rfl)
set_option maxRecDepth 20000 in
theorem lk_La_90 : Cond.methodLink "HiddenRowsLaw" 90 ⟨"HiddenRows", "drawn", "(I)J"⟩ ∈ ab_tbl := (ab_mem (List.mem_append_right _ (List.mem_of_getElem? (i := 503) rfl)) rfl)
set_option maxRecDepth 20000 in
theorem lk_La_93 : Cond.methodLink "HiddenRowsLaw" 93 ⟨"HiddenRowsModel", "drawn", "(I)J"⟩ ∈ ab_tbl := (ab_mem (List.mem_append_right _ (List.mem_of_getElem? (i := 846) rfl)) rfl)
set_option maxRecDepth 20000 in
theorem lk_La_94 : Cond.methodLink "HiddenRowsLaw" 94 ⟨"HiddenRows", "drawnAt", "(I)I"⟩ ∈ ab_tbl := (ab_mem (List.mem_append_right _ (List.mem_of_getElem? (i := 540) rfl)) rfl)
set_option maxRecDepth 20000 in
theorem lk_La_97 : Cond.methodLink "HiddenRowsLaw" 97 ⟨"HiddenRowsModel", "drawnAt", "(I)I"⟩ ∈ ab_tbl := (ab_mem (List.mem_append_right _ (List.mem_of_getElem? (i := 853) rfl)) rfl)
set_option maxRecDepth 20000 in
theorem lk_La_98 : Cond.methodLink "HiddenRowsLaw" 98 ⟨"HiddenRows", "trees", "(I)J"⟩ ∈ ab_tbl := (ab_mem (List.mem_append_right _ (List.mem_of_getElem? (i := 544) rfl)) rfl)
set_option maxRecDepth 20000 in
theorem lk_La_101 : Cond.methodLink "HiddenRowsLaw" 101 ⟨"HiddenRowsModel", "trees", "(I)J"⟩ ∈ ab_tbl := (ab_mem (List.mem_append_right _ (List.mem_of_getElem? (i := 857) rfl)) rfl)
set_option maxRecDepth 20000 in
theorem lk_La_102 : Cond.methodLink "HiddenRowsLaw" 102 ⟨"HiddenRows", "treeCount", "(I)J"⟩ ∈ ab_tbl := (ab_mem (List.mem_append_right _ (List.mem_of_getElem? (i := 578) rfl)) rfl)
set_option maxRecDepth 20000 in
theorem lk_La_105 : Cond.methodLink "HiddenRowsLaw" 105 ⟨"HiddenRowsModel", "treeCount", "(I)J"⟩ ∈ ab_tbl := (ab_mem (List.mem_append_right _ (List.mem_of_getElem? (i := 880) rfl)) rfl)
set_option maxRecDepth 20000 in
theorem lk_La_106 : Cond.methodLink "HiddenRowsLaw" 106 ⟨"HiddenRows", "treeBest", "(I)J"⟩ ∈ ab_tbl := (ab_mem (List.mem_append_right _ (List.mem_of_getElem? (i := 586) rfl)) rfl)
set_option maxRecDepth 20000 in
theorem lk_La_109 : Cond.methodLink "HiddenRowsLaw" 109 ⟨"HiddenRowsModel", "treeBest", "(I)J"⟩ ∈ ab_tbl := (ab_mem (List.mem_append_right _ (List.mem_of_getElem? (i := 884) rfl)) rfl)
set_option maxRecDepth 20000 in
theorem lk_La_110 : Cond.methodLink "HiddenRowsLaw" 110 ⟨"HiddenRows", "treeAt", "(II)I"⟩ ∈ ab_tbl := (ab_mem (List.mem_append_right _ (List.mem_of_getElem? (i := 594) rfl)) rfl)
set_option maxRecDepth 20000 in
theorem lk_La_113 : Cond.methodLink "HiddenRowsLaw" 113 ⟨"HiddenRowsModel", "treeAt", "(II)I"⟩ ∈ ab_tbl := (ab_mem (List.mem_append_right _ (List.mem_of_getElem? (i := 889) rfl)) rfl)
set_option maxRecDepth 20000 in
theorem lk_La_114 : Cond.methodLink "HiddenRowsLaw" 114 ⟨"HiddenRows", "span", "(IIIII)J"⟩ ∈ ab_tbl := (ab_mem (List.mem_append_right _ (List.mem_of_getElem? (i := 614) rfl)) rfl)
set_option maxRecDepth 20000 in
theorem lk_La_118 : Cond.methodLink "HiddenRowsLaw" 118 ⟨"HiddenRowsModel", "span", "(IIIII)J"⟩ ∈ ab_tbl := (ab_mem (List.mem_append_right _ (List.mem_of_getElem? (i := 897) rfl)) rfl)
set_option maxRecDepth 20000 in
theorem lk_Mo_1 : Cond.methodLink "HiddenRowsModel" 1 ⟨"java/lang/Object", "<init>", "()V"⟩ ∈ ab_tbl := (ab_mem (List.mem_append_right _ (List.mem_of_getElem? (i := 635) rfl)) rfl)
set_option maxRecDepth 20000 in
theorem lk_Mo_85 : Cond.methodLink "HiddenRowsModel" 85 ⟨"HiddenRowsModel", "change", "()V"⟩ ∈ ab_tbl := (ab_mem (List.mem_append_right _ (List.mem_of_getElem? (i := 722) rfl)) rfl)
set_option maxRecDepth 20000 in
theorem lk_Mo_88 : Cond.methodLink "HiddenRowsModel" 88 ⟨"HiddenRowsModel", "isState", "(I)Z"⟩ ∈ ab_tbl := (ab_mem (List.mem_append_right _ (List.mem_of_getElem? (i := 730) rfl)) rfl)
set_option maxRecDepth 20000 in
theorem lk_Mo_92 : Cond.methodLink "HiddenRowsModel" 92 ⟨"HiddenRowsModel", "isWeight", "(I)Z"⟩ ∈ ab_tbl := (ab_mem (List.mem_append_right _ (List.mem_of_getElem? (i := 734) rfl)) rfl)
set_option maxRecDepth 20000 in
theorem lk_Mo_95 : Cond.methodLink "HiddenRowsModel" 95 ⟨"HiddenRowsModel", "isKind", "(I)Z"⟩ ∈ ab_tbl := (ab_mem (List.mem_append_right _ (List.mem_of_getElem? (i := 749) rfl)) rfl)
set_option maxRecDepth 20000 in
theorem lk_Mo_98 : Cond.methodLink "HiddenRowsModel" 98 ⟨"HiddenRowsModel", "isPlace", "(I)Z"⟩ ∈ ab_tbl := (ab_mem (List.mem_append_right _ (List.mem_of_getElem? (i := 769) rfl)) rfl)
set_option maxRecDepth 20000 in
theorem lk_Mo_101 : Cond.methodLink "HiddenRowsModel" 101 ⟨"HiddenRowsModel", "stay", "(I)I"⟩ ∈ ab_tbl := (ab_mem (List.mem_append_right _ (List.mem_of_getElem? (i := 789) rfl)) rfl)
set_option maxRecDepth 20000 in
theorem lk_Mo_105 : Cond.methodLink "HiddenRowsModel" 105 ⟨"HiddenRowsModel", "show", "(II)I"⟩ ∈ ab_tbl := (ab_mem (List.mem_append_right _ (List.mem_of_getElem? (i := 797) rfl)) rfl)
set_option maxRecDepth 20000 in
theorem lk_Mo_109 : Cond.methodLink "HiddenRowsModel" 109 ⟨"HiddenRowsModel", "canBe", "(II)Z"⟩ ∈ ab_tbl := (ab_mem (List.mem_append_right _ (List.mem_of_getElem? (i := 785) rfl)) rfl)
set_option maxRecDepth 20000 in
theorem lk_Mo_123 : Cond.methodLink "HiddenRowsModel" 123 ⟨"HiddenRowsModel", "next", "(Z)Z"⟩ ∈ ab_tbl := (ab_mem (List.mem_append_right _ (List.mem_of_getElem? (i := 781) rfl)) rfl)
set_option maxRecDepth 20000 in
theorem lk_Mo_127 : Cond.methodLink "HiddenRowsModel" 127 ⟨"HiddenRowsModel", "weightOf", "()J"⟩ ∈ ab_tbl := (ab_mem (List.mem_append_right _ (List.mem_of_getElem? (i := 793) rfl)) rfl)
set_option maxRecDepth 20000 in
theorem lk_Mo_131 : Cond.methodLink "HiddenRowsModel" 131 ⟨"HiddenRowsModel", "add", "(J)V"⟩ ∈ ab_tbl := (ab_mem (List.mem_append_right _ (List.mem_of_getElem? (i := 801) rfl)) rfl)
set_option maxRecDepth 20000 in
theorem lk_Mo_135 : Cond.methodLink "HiddenRowsModel" 135 ⟨"HiddenRowsModel", "keep", "(J)V"⟩ ∈ ab_tbl := (ab_mem (List.mem_append_right _ (List.mem_of_getElem? (i := 805) rfl)) rfl)
set_option maxRecDepth 20000 in
theorem lk_Mo_138 : Cond.methodLink "HiddenRowsModel" 138 ⟨"HiddenRowsModel", "know", "()V"⟩ ∈ ab_tbl := (ab_mem (List.mem_append_right _ (List.mem_of_getElem? (i := 777) rfl)) rfl)
set_option maxRecDepth 20000 in
theorem lk_Mo_141 : Cond.methodLink "HiddenRowsModel" 141 ⟨"HiddenRowsModel", "common", "(JJ)J"⟩ ∈ ab_tbl := (ab_mem (List.mem_append_right _ (List.mem_of_getElem? (i := 823) rfl)) rfl)
set_option maxRecDepth 20000 in
theorem lk_Mo_151 : Cond.methodLink "HiddenRowsModel" 151 ⟨"HiddenRowsModel", "lowest", "(JJI)J"⟩ ∈ ab_tbl := (ab_mem (List.mem_append_right _ (List.mem_of_getElem? (i := 820) rfl)) rfl)
set_option maxRecDepth 20000 in
theorem lk_Mo_159 : Cond.methodLink "HiddenRowsModel" 159 ⟨"HiddenRowsModel", "findSpan", "(III)V"⟩ ∈ ab_tbl := (ab_mem (List.mem_append_right _ (List.mem_of_getElem? (i := 865) rfl)) rfl)
set_option maxRecDepth 20000 in
theorem lk_Mo_163 : Cond.methodLink "HiddenRowsModel" 163 ⟨"HiddenRowsModel", "at", "(III)I"⟩ ∈ ab_tbl := (ab_mem (List.mem_append_right _ (List.mem_of_getElem? (i := 869) rfl)) rfl)
set_option maxRecDepth 20000 in
theorem lk_Mo_167 : Cond.methodLink "HiddenRowsModel" 167 ⟨"HiddenRowsModel", "leafOf", "(II)J"⟩ ∈ ab_tbl := (ab_mem (List.mem_append_right _ (List.mem_of_getElem? (i := 872) rfl)) rfl)
set_option maxRecDepth 20000 in
theorem lk_Mo_171 : Cond.methodLink "HiddenRowsModel" 171 ⟨"HiddenRowsModel", "findTrees", "(III)V"⟩ ∈ ab_tbl := (ab_mem (List.mem_append_right _ (List.mem_of_getElem? (i := 861) rfl)) rfl)
set_option maxRecDepth 20000 in
theorem lk_Mo_174 : Cond.methodLink "HiddenRowsModel" 174 ⟨"HiddenRowsModel", "whole", "(I)I"⟩ ∈ ab_tbl := (ab_mem (List.mem_append_right _ (List.mem_of_getElem? (i := 876) rfl)) rfl)
set_option maxRecDepth 20000 in
theorem lk_Mo_177 : Cond.methodLink "HiddenRowsModel" 177 ⟨"HiddenRowsModel", "trees", "(I)J"⟩ ∈ ab_tbl := (ab_mem (List.mem_append_right _ (List.mem_of_getElem? (i := 888) rfl)) rfl)
set_option maxRecDepth 20000 in
theorem lk_Mo_181 : Cond.methodLink "HiddenRowsModel" 181 ⟨"HiddenRowsModel", "leastOf", "(III)I"⟩ ∈ ab_tbl := (ab_mem (List.mem_append_right _ (List.mem_of_getElem? (i := 893) rfl)) rfl)
theorem in_H : Cond.initialized "HiddenRows" ∈ ab_tbl := (ab_mem (List.mem_append_right _ (List.mem_of_getElem? (i := 1) rfl)) rfl)
theorem it_H : Cond.instantiable "HiddenRows" 8 ∈ ab_tbl := (ab_mem (List.mem_append_right _ (List.mem_of_getElem? (i := 13) rfl)) rfl)
theorem in_Ro : Cond.initialized "HiddenRows$Row" ∈ ab_tbl := (ab_mem (List.mem_append_right _ (List.mem_of_getElem? (i := 2) rfl)) rfl)
theorem it_Ro : Cond.instantiable "HiddenRows$Row" 3 ∈ ab_tbl := (ab_mem (List.mem_append_right _ (List.mem_of_getElem? (i := 21) rfl)) rfl)
theorem in_St : Cond.initialized "HiddenRows$States" ∈ ab_tbl := (ab_mem (List.mem_append_right _ (List.mem_of_getElem? (i := 3) rfl)) rfl)
theorem it_St : Cond.instantiable "HiddenRows$States" 3 ∈ ab_tbl := (ab_mem (List.mem_append_right _ (List.mem_of_getElem? (i := 47) rfl)) rfl)
theorem in_Ws : Cond.initialized "HiddenRows$WaySums" ∈ ab_tbl := (ab_mem (List.mem_append_right _ (List.mem_of_getElem? (i := 4) rfl)) rfl)
theorem it_Ws : Cond.instantiable "HiddenRows$WaySums" 9 ∈ ab_tbl := (ab_mem (List.mem_append_right _ (List.mem_of_getElem? (i := 77) rfl)) rfl)
theorem in_Bw : Cond.initialized "HiddenRows$BestWays" ∈ ab_tbl := (ab_mem (List.mem_append_right _ (List.mem_of_getElem? (i := 5) rfl)) rfl)
theorem it_Bw : Cond.instantiable "HiddenRows$BestWays" 6 ∈ ab_tbl := (ab_mem (List.mem_append_right _ (List.mem_of_getElem? (i := 116) rfl)) rfl)
theorem in_Wl : Cond.initialized "HiddenRows$WayList" ∈ ab_tbl := (ab_mem (List.mem_append_right _ (List.mem_of_getElem? (i := 6) rfl)) rfl)
theorem it_Wl : Cond.instantiable "HiddenRows$WayList" 3 ∈ ab_tbl := (ab_mem (List.mem_append_right _ (List.mem_of_getElem? (i := 123) rfl)) rfl)
theorem in_Dr : Cond.initialized "HiddenRows$Drawing" ∈ ab_tbl := (ab_mem (List.mem_append_right _ (List.mem_of_getElem? (i := 7) rfl)) rfl)
theorem it_Dr : Cond.instantiable "HiddenRows$Drawing" 9 ∈ ab_tbl := (ab_mem (List.mem_append_right _ (List.mem_of_getElem? (i := 165) rfl)) rfl)
theorem in_Ki : Cond.initialized "HiddenRows$Kinds" ∈ ab_tbl := (ab_mem (List.mem_append_right _ (List.mem_of_getElem? (i := 8) rfl)) rfl)
theorem it_Ki : Cond.instantiable "HiddenRows$Kinds" 3 ∈ ab_tbl := (ab_mem (List.mem_append_right _ (List.mem_of_getElem? (i := 201) rfl)) rfl)
theorem in_Tt : Cond.initialized "HiddenRows$TreeTables" ∈ ab_tbl := (ab_mem (List.mem_append_right _ (List.mem_of_getElem? (i := 9) rfl)) rfl)
theorem it_Tt : Cond.instantiable "HiddenRows$TreeTables" 10 ∈ ab_tbl := (ab_mem (List.mem_append_right _ (List.mem_of_getElem? (i := 223) rfl)) rfl)
theorem in_Mo : Cond.initialized "HiddenRowsModel" ∈ ab_tbl := (ab_mem (List.mem_append_right _ (List.mem_of_getElem? (i := 10) rfl)) rfl)
set_option maxRecDepth 20000 in
theorem it_Mo : Cond.instantiable "HiddenRowsModel" 27 ∈ ab_tbl := (ab_mem (List.mem_append_right _ (List.mem_of_getElem? (i := 631) rfl)) rfl)
theorem ac_int : Cond.arrayClass .int ∈ ab_tbl := (ab_mem (List.mem_append_right _ (List.mem_of_getElem? (i := 45) rfl)) rfl)
theorem ac_long : Cond.arrayClass .long ∈ ab_tbl := (ab_mem (List.mem_append_right _ (List.mem_of_getElem? (i := 114) rfl)) rfl)
theorem im_obj : Cond.instanceMethod objectInit ∈ ab_tbl := (ab_mem (List.mem_append_right _ (List.mem_of_getElem? (i := 18) rfl)) rfl)
theorem co_obj : Cond.code objectInit ⟨#[0xb1]⟩ 1 none ∈ ab_tbl := (ab_mem (List.mem_append_right _ (List.mem_of_getElem? (i := 19) rfl)) rfl)
theorem fb_H_init : ab_B y_H_init b_H_init 1 none 0 := ⟨(ab_mem (List.mem_append_right _ (List.mem_of_getElem? (i := 16) rfl)) rfl), in_H, by decide +kernel⟩
theorem im_H_init : Cond.instanceMethod y_H_init ∈ ab_tbl := (ab_mem (List.mem_append_right _ (List.mem_of_getElem? (i := 15) rfl)) rfl)
theorem fb_Ro_init : ab_B y_Ro_init b_Ro_init 1 none 0 := ⟨(ab_mem (List.mem_append_right _ (List.mem_of_getElem? (i := 24) rfl)) rfl), in_Ro, by decide +kernel⟩
theorem im_Ro_init : Cond.instanceMethod y_Ro_init ∈ ab_tbl := (ab_mem (List.mem_append_right _ (List.mem_of_getElem? (i := 23) rfl)) rfl)
theorem fb_St_init : ab_B y_St_init b_St_init 1 none 0 := ⟨(ab_mem (List.mem_append_right _ (List.mem_of_getElem? (i := 50) rfl)) rfl), in_St, by decide +kernel⟩
theorem im_St_init : Cond.instanceMethod y_St_init ∈ ab_tbl := (ab_mem (List.mem_append_right _ (List.mem_of_getElem? (i := 49) rfl)) rfl)
theorem fb_Ws_init : ab_B y_Ws_init b_Ws_init 4 none 3 := ⟨(ab_mem (List.mem_append_right _ (List.mem_of_getElem? (i := 80) rfl)) rfl), in_Ws, by decide +kernel⟩
theorem im_Ws_init : Cond.instanceMethod y_Ws_init ∈ ab_tbl := (ab_mem (List.mem_append_right _ (List.mem_of_getElem? (i := 79) rfl)) rfl)
theorem fb_Bw_init : ab_B y_Bw_init b_Bw_init 5 none 3 := ⟨(ab_mem (List.mem_append_right _ (List.mem_of_getElem? (i := 119) rfl)) rfl), in_Bw, by decide +kernel⟩
theorem im_Bw_init : Cond.instanceMethod y_Bw_init ∈ ab_tbl := (ab_mem (List.mem_append_right _ (List.mem_of_getElem? (i := 118) rfl)) rfl)
theorem fb_Wl_init : ab_B y_Wl_init b_Wl_init 1 none 0 := ⟨(ab_mem (List.mem_append_right _ (List.mem_of_getElem? (i := 126) rfl)) rfl), in_Wl, by decide +kernel⟩
theorem im_Wl_init : Cond.instanceMethod y_Wl_init ∈ ab_tbl := (ab_mem (List.mem_append_right _ (List.mem_of_getElem? (i := 125) rfl)) rfl)
theorem fb_Dr_init : ab_B y_Dr_init b_Dr_init 4 none 3 := ⟨(ab_mem (List.mem_append_right _ (List.mem_of_getElem? (i := 168) rfl)) rfl), in_Dr, by decide +kernel⟩
theorem im_Dr_init : Cond.instanceMethod y_Dr_init ∈ ab_tbl := (ab_mem (List.mem_append_right _ (List.mem_of_getElem? (i := 167) rfl)) rfl)
theorem fb_Ki_init : ab_B y_Ki_init b_Ki_init 1 none 0 := ⟨(ab_mem (List.mem_append_right _ (List.mem_of_getElem? (i := 204) rfl)) rfl), in_Ki, by decide +kernel⟩
theorem im_Ki_init : Cond.instanceMethod y_Ki_init ∈ ab_tbl := (ab_mem (List.mem_append_right _ (List.mem_of_getElem? (i := 203) rfl)) rfl)
theorem fb_Tt_init : ab_B y_Tt_init b_Tt_init 3 none 2 := ⟨(ab_mem (List.mem_append_right _ (List.mem_of_getElem? (i := 226) rfl)) rfl), in_Tt, by decide +kernel⟩
theorem im_Tt_init : Cond.instanceMethod y_Tt_init ∈ ab_tbl := (ab_mem (List.mem_append_right _ (List.mem_of_getElem? (i := 225) rfl)) rfl)
theorem fb_H_state : ab_B y_H_state b_H_state 1 (some .int) 0 := ⟨(ab_mem (List.mem_append_right _ (List.mem_of_getElem? (i := 289) rfl)) rfl), in_H, by decide +kernel⟩
theorem im_H_state : Cond.instanceMethod y_H_state ∈ ab_tbl := (ab_mem (List.mem_append_right _ (List.mem_of_getElem? (i := 287) rfl)) rfl)
theorem se_H_state : Cond.selects "HiddenRows" y_H_state y_H_state ∈ ab_tbl := (ab_mem (List.mem_append_right _ (List.mem_of_getElem? (i := 288) rfl)) rfl)
theorem fb_H_forgetWays : ab_B y_H_forgetWays b_H_forgetWays 1 none 0 := ⟨(ab_mem (List.mem_append_right _ (List.mem_of_getElem? (i := 293) rfl)) rfl), in_H, by decide +kernel⟩
theorem im_H_forgetWays : Cond.instanceMethod y_H_forgetWays ∈ ab_tbl := (ab_mem (List.mem_append_right _ (List.mem_of_getElem? (i := 292) rfl)) rfl)
theorem se_H_forgetWays : Cond.selects "HiddenRows" y_H_forgetWays y_H_forgetWays ∈ ab_tbl := (ab_mem (List.mem_append_left _ (List.mem_of_getElem? (i := 0) rfl)) rfl)
theorem fb_St_addOne : ab_B y_St_addOne b_St_addOne 1 (some .int) 0 := ⟨(ab_mem (List.mem_append_right _ (List.mem_of_getElem? (i := 297) rfl)) rfl), in_St, by decide +kernel⟩
theorem im_St_addOne : Cond.instanceMethod y_St_addOne ∈ ab_tbl := (ab_mem (List.mem_append_right _ (List.mem_of_getElem? (i := 295) rfl)) rfl)
theorem se_St_addOne : Cond.selects "HiddenRows$States" y_St_addOne y_St_addOne ∈ ab_tbl := (ab_mem (List.mem_append_right _ (List.mem_of_getElem? (i := 296) rfl)) rfl)
theorem fb_H_weight : ab_B y_H_weight b_H_weight 5 (some .int) 3 := ⟨(ab_mem (List.mem_append_right _ (List.mem_of_getElem? (i := 301) rfl)) rfl), in_H, by decide +kernel⟩
theorem im_H_weight : Cond.instanceMethod y_H_weight ∈ ab_tbl := (ab_mem (List.mem_append_right _ (List.mem_of_getElem? (i := 299) rfl)) rfl)
theorem se_H_weight : Cond.selects "HiddenRows" y_H_weight y_H_weight ∈ ab_tbl := (ab_mem (List.mem_append_right _ (List.mem_of_getElem? (i := 300) rfl)) rfl)
theorem fb_St_has : ab_B y_St_has b_St_has 2 (some .boolean) 1 := ⟨(ab_mem (List.mem_append_right _ (List.mem_of_getElem? (i := 305) rfl)) rfl), in_St, by decide +kernel⟩
theorem im_St_has : Cond.instanceMethod y_St_has ∈ ab_tbl := (ab_mem (List.mem_append_right _ (List.mem_of_getElem? (i := 303) rfl)) rfl)
theorem se_St_has : Cond.selects "HiddenRows$States" y_St_has y_St_has ∈ ab_tbl := (ab_mem (List.mem_append_right _ (List.mem_of_getElem? (i := 304) rfl)) rfl)
theorem fb_H_isWeight : ab_B y_H_isWeight b_H_isWeight 1 (some .boolean) 1 := ⟨(ab_mem (List.mem_append_right _ (List.mem_of_getElem? (i := 308) rfl)) rfl), in_H, by decide +kernel⟩
theorem sm_H_isWeight : Cond.static y_H_isWeight ∈ ab_tbl := (ab_mem (List.mem_append_right _ (List.mem_of_getElem? (i := 307) rfl)) rfl)
theorem fb_H_move : ab_B y_H_move b_H_move 5 (some .int) 3 := ⟨(ab_mem (List.mem_append_right _ (List.mem_of_getElem? (i := 312) rfl)) rfl), in_H, by decide +kernel⟩
theorem im_H_move : Cond.instanceMethod y_H_move ∈ ab_tbl := (ab_mem (List.mem_append_right _ (List.mem_of_getElem? (i := 310) rfl)) rfl)
theorem se_H_move : Cond.selects "HiddenRows" y_H_move y_H_move ∈ ab_tbl := (ab_mem (List.mem_append_right _ (List.mem_of_getElem? (i := 311) rfl)) rfl)
theorem fb_H_kind : ab_B y_H_kind b_H_kind 1 (some .int) 0 := ⟨(ab_mem (List.mem_append_right _ (List.mem_of_getElem? (i := 316) rfl)) rfl), in_H, by decide +kernel⟩
theorem im_H_kind : Cond.instanceMethod y_H_kind ∈ ab_tbl := (ab_mem (List.mem_append_right _ (List.mem_of_getElem? (i := 314) rfl)) rfl)
theorem se_H_kind : Cond.selects "HiddenRows" y_H_kind y_H_kind ∈ ab_tbl := (ab_mem (List.mem_append_right _ (List.mem_of_getElem? (i := 315) rfl)) rfl)
theorem fb_H_forgetTrees : ab_B y_H_forgetTrees b_H_forgetTrees 1 none 0 := ⟨(ab_mem (List.mem_append_right _ (List.mem_of_getElem? (i := 320) rfl)) rfl), in_H, by decide +kernel⟩
theorem im_H_forgetTrees : Cond.instanceMethod y_H_forgetTrees ∈ ab_tbl := (ab_mem (List.mem_append_right _ (List.mem_of_getElem? (i := 319) rfl)) rfl)
theorem se_H_forgetTrees : Cond.selects "HiddenRows" y_H_forgetTrees y_H_forgetTrees ∈ ab_tbl := (ab_mem (List.mem_append_left _ (List.mem_of_getElem? (i := 1) rfl)) rfl)
theorem fb_H_rule : ab_B y_H_rule b_H_rule 7 (some .int) 4 := ⟨(ab_mem (List.mem_append_right _ (List.mem_of_getElem? (i := 324) rfl)) rfl), in_H, by decide +kernel⟩
theorem im_H_rule : Cond.instanceMethod y_H_rule ∈ ab_tbl := (ab_mem (List.mem_append_right _ (List.mem_of_getElem? (i := 322) rfl)) rfl)
theorem se_H_rule : Cond.selects "HiddenRows" y_H_rule y_H_rule ∈ ab_tbl := (ab_mem (List.mem_append_right _ (List.mem_of_getElem? (i := 323) rfl)) rfl)
theorem fb_Ki_has : ab_B y_Ki_has b_Ki_has 2 (some .boolean) 1 := ⟨(ab_mem (List.mem_append_right _ (List.mem_of_getElem? (i := 328) rfl)) rfl), in_Ki, by decide +kernel⟩
theorem im_Ki_has : Cond.instanceMethod y_Ki_has ∈ ab_tbl := (ab_mem (List.mem_append_right _ (List.mem_of_getElem? (i := 326) rfl)) rfl)
theorem se_Ki_has : Cond.selects "HiddenRows$Kinds" y_Ki_has y_Ki_has ∈ ab_tbl := (ab_mem (List.mem_append_right _ (List.mem_of_getElem? (i := 327) rfl)) rfl)
theorem fb_Ki_parts : ab_B y_Ki_parts b_Ki_parts 2 (some .int) 2 := ⟨(ab_mem (List.mem_append_right _ (List.mem_of_getElem? (i := 331) rfl)) rfl), in_Ki, by decide +kernel⟩
theorem sm_Ki_parts : Cond.static y_Ki_parts ∈ ab_tbl := (ab_mem (List.mem_append_right _ (List.mem_of_getElem? (i := 330) rfl)) rfl)
theorem fb_H_leaf : ab_B y_H_leaf b_H_leaf 5 (some .int) 3 := ⟨(ab_mem (List.mem_append_right _ (List.mem_of_getElem? (i := 335) rfl)) rfl), in_H, by decide +kernel⟩
theorem im_H_leaf : Cond.instanceMethod y_H_leaf ∈ ab_tbl := (ab_mem (List.mem_append_right _ (List.mem_of_getElem? (i := 333) rfl)) rfl)
theorem se_H_leaf : Cond.selects "HiddenRows" y_H_leaf y_H_leaf ∈ ab_tbl := (ab_mem (List.mem_append_right _ (List.mem_of_getElem? (i := 334) rfl)) rfl)
theorem fb_H_sign : ab_B y_H_sign b_H_sign 2 (some .int) 1 := ⟨(ab_mem (List.mem_append_right _ (List.mem_of_getElem? (i := 339) rfl)) rfl), in_H, by decide +kernel⟩
theorem im_H_sign : Cond.instanceMethod y_H_sign ∈ ab_tbl := (ab_mem (List.mem_append_right _ (List.mem_of_getElem? (i := 337) rfl)) rfl)
theorem se_H_sign : Cond.selects "HiddenRows" y_H_sign y_H_sign ∈ ab_tbl := (ab_mem (List.mem_append_right _ (List.mem_of_getElem? (i := 338) rfl)) rfl)
theorem fb_Ro_append : ab_B y_Ro_append b_Ro_append 2 none 1 := ⟨(ab_mem (List.mem_append_right _ (List.mem_of_getElem? (i := 343) rfl)) rfl), in_Ro, by decide +kernel⟩
theorem im_Ro_append : Cond.instanceMethod y_Ro_append ∈ ab_tbl := (ab_mem (List.mem_append_right _ (List.mem_of_getElem? (i := 341) rfl)) rfl)
theorem se_Ro_append : Cond.selects "HiddenRows$Row" y_Ro_append y_Ro_append ∈ ab_tbl := (ab_mem (List.mem_append_right _ (List.mem_of_getElem? (i := 342) rfl)) rfl)
theorem fb_H_clear : ab_B y_H_clear b_H_clear 2 (some .int) 0 := ⟨(ab_mem (List.mem_append_right _ (List.mem_of_getElem? (i := 347) rfl)) rfl), in_H, by decide +kernel⟩
theorem im_H_clear : Cond.instanceMethod y_H_clear ∈ ab_tbl := (ab_mem (List.mem_append_right _ (List.mem_of_getElem? (i := 345) rfl)) rfl)
theorem se_H_clear : Cond.selects "HiddenRows" y_H_clear y_H_clear ∈ ab_tbl := (ab_mem (List.mem_append_right _ (List.mem_of_getElem? (i := 346) rfl)) rfl)
theorem fb_H_hold : ab_B y_H_hold b_H_hold 4 (some .int) 2 := ⟨(ab_mem (List.mem_append_right _ (List.mem_of_getElem? (i := 351) rfl)) rfl), in_H, by decide +kernel⟩
theorem im_H_hold : Cond.instanceMethod y_H_hold ∈ ab_tbl := (ab_mem (List.mem_append_right _ (List.mem_of_getElem? (i := 349) rfl)) rfl)
theorem se_H_hold : Cond.selects "HiddenRows" y_H_hold y_H_hold ∈ ab_tbl := (ab_mem (List.mem_append_right _ (List.mem_of_getElem? (i := 350) rfl)) rfl)
theorem fb_Ro_has : ab_B y_Ro_has b_Ro_has 2 (some .boolean) 1 := ⟨(ab_mem (List.mem_append_right _ (List.mem_of_getElem? (i := 355) rfl)) rfl), in_Ro, by decide +kernel⟩
theorem im_Ro_has : Cond.instanceMethod y_Ro_has ∈ ab_tbl := (ab_mem (List.mem_append_right _ (List.mem_of_getElem? (i := 353) rfl)) rfl)
theorem se_Ro_has : Cond.selects "HiddenRows$Row" y_Ro_has y_Ro_has ∈ ab_tbl := (ab_mem (List.mem_append_right _ (List.mem_of_getElem? (i := 354) rfl)) rfl)
theorem fb_H_total : ab_B y_H_total b_H_total 1 (some .long) 0 := ⟨(ab_mem (List.mem_append_right _ (List.mem_of_getElem? (i := 359) rfl)) rfl), in_H, by decide +kernel⟩
theorem im_H_total : Cond.instanceMethod y_H_total ∈ ab_tbl := (ab_mem (List.mem_append_right _ (List.mem_of_getElem? (i := 357) rfl)) rfl)
theorem se_H_total : Cond.selects "HiddenRows" y_H_total y_H_total ∈ ab_tbl := (ab_mem (List.mem_append_right _ (List.mem_of_getElem? (i := 358) rfl)) rfl)
theorem fb_Ws_whole : ab_B y_Ws_whole b_Ws_whole 4 (some .long) 0 := ⟨(ab_mem (List.mem_append_right _ (List.mem_of_getElem? (i := 363) rfl)) rfl), in_Ws, by decide +kernel⟩
theorem im_Ws_whole : Cond.instanceMethod y_Ws_whole ∈ ab_tbl := (ab_mem (List.mem_append_right _ (List.mem_of_getElem? (i := 361) rfl)) rfl)
theorem se_Ws_whole : Cond.selects "HiddenRows$WaySums" y_Ws_whole y_Ws_whole ∈ ab_tbl := (ab_mem (List.mem_append_right _ (List.mem_of_getElem? (i := 362) rfl)) rfl)
theorem fb_Ws_refresh : ab_B y_Ws_refresh b_Ws_refresh 1 none 0 := ⟨(ab_mem (List.mem_append_right _ (List.mem_of_getElem? (i := 367) rfl)) rfl), in_Ws, by decide +kernel⟩
theorem im_Ws_refresh : Cond.instanceMethod y_Ws_refresh ∈ ab_tbl := (ab_mem (List.mem_append_right _ (List.mem_of_getElem? (i := 365) rfl)) rfl)
theorem se_Ws_refresh : Cond.selects "HiddenRows$WaySums" y_Ws_refresh y_Ws_refresh ∈ ab_tbl := (ab_mem (List.mem_append_right _ (List.mem_of_getElem? (i := 366) rfl)) rfl)
theorem fb_Ws_showPlaces : ab_B y_Ws_showPlaces b_Ws_showPlaces 3 none 0 := ⟨(ab_mem (List.mem_append_right _ (List.mem_of_getElem? (i := 371) rfl)) rfl), in_Ws, by decide +kernel⟩
theorem im_Ws_showPlaces : Cond.instanceMethod y_Ws_showPlaces ∈ ab_tbl := (ab_mem (List.mem_append_right _ (List.mem_of_getElem? (i := 370) rfl)) rfl)
theorem se_Ws_showPlaces : Cond.selects "HiddenRows$WaySums" y_Ws_showPlaces y_Ws_showPlaces ∈ ab_tbl := (ab_mem (List.mem_append_left _ (List.mem_of_getElem? (i := 2) rfl)) rfl)
theorem fb_Ws_showOf : ab_B y_Ws_showOf b_Ws_showOf 7 (some .long) 2 := ⟨(ab_mem (List.mem_append_right _ (List.mem_of_getElem? (i := 375) rfl)) rfl), in_Ws, by decide +kernel⟩
theorem im_Ws_showOf : Cond.instanceMethod y_Ws_showOf ∈ ab_tbl := (ab_mem (List.mem_append_right _ (List.mem_of_getElem? (i := 374) rfl)) rfl)
theorem se_Ws_showOf : Cond.selects "HiddenRows$WaySums" y_Ws_showOf y_Ws_showOf ∈ ab_tbl := (ab_mem (List.mem_append_left _ (List.mem_of_getElem? (i := 3) rfl)) rfl)
theorem fb_Ws_cut : ab_B y_Ws_cut b_Ws_cut 2 (some .long) 1 := ⟨(ab_mem (List.mem_append_right _ (List.mem_of_getElem? (i := 379) rfl)) rfl), in_Ws, by decide +kernel⟩
theorem im_Ws_cut : Cond.instanceMethod y_Ws_cut ∈ ab_tbl := (ab_mem (List.mem_append_right _ (List.mem_of_getElem? (i := 378) rfl)) rfl)
theorem se_Ws_cut : Cond.selects "HiddenRows$WaySums" y_Ws_cut y_Ws_cut ∈ ab_tbl := (ab_mem (List.mem_append_left _ (List.mem_of_getElem? (i := 4) rfl)) rfl)
theorem fb_Ws_sumFromBehind : ab_B y_Ws_sumFromBehind b_Ws_sumFromBehind 3 none 0 := ⟨(ab_mem (List.mem_append_right _ (List.mem_of_getElem? (i := 383) rfl)) rfl), in_Ws, by decide +kernel⟩
theorem im_Ws_sumFromBehind : Cond.instanceMethod y_Ws_sumFromBehind ∈ ab_tbl := (ab_mem (List.mem_append_right _ (List.mem_of_getElem? (i := 382) rfl)) rfl)
theorem se_Ws_sumFromBehind : Cond.selects "HiddenRows$WaySums" y_Ws_sumFromBehind y_Ws_sumFromBehind ∈ ab_tbl := (ab_mem (List.mem_append_left _ (List.mem_of_getElem? (i := 5) rfl)) rfl)
theorem fb_Ws_longerThan : ab_B y_Ws_longerThan b_Ws_longerThan 7 (some .long) 3 := ⟨(ab_mem (List.mem_append_right _ (List.mem_of_getElem? (i := 387) rfl)) rfl), in_Ws, by decide +kernel⟩
theorem im_Ws_longerThan : Cond.instanceMethod y_Ws_longerThan ∈ ab_tbl := (ab_mem (List.mem_append_right _ (List.mem_of_getElem? (i := 385) rfl)) rfl)
theorem se_Ws_longerThan : Cond.selects "HiddenRows$WaySums" y_Ws_longerThan y_Ws_longerThan ∈ ab_tbl := (ab_mem (List.mem_append_right _ (List.mem_of_getElem? (i := 386) rfl)) rfl)
theorem fb_Ws_segment : ab_B y_Ws_segment b_Ws_segment 7 (some .long) 3 := ⟨(ab_mem (List.mem_append_right _ (List.mem_of_getElem? (i := 391) rfl)) rfl), in_Ws, by decide +kernel⟩
theorem im_Ws_segment : Cond.instanceMethod y_Ws_segment ∈ ab_tbl := (ab_mem (List.mem_append_right _ (List.mem_of_getElem? (i := 389) rfl)) rfl)
theorem se_Ws_segment : Cond.selects "HiddenRows$WaySums" y_Ws_segment y_Ws_segment ∈ ab_tbl := (ab_mem (List.mem_append_right _ (List.mem_of_getElem? (i := 390) rfl)) rfl)
theorem fb_Ws_movedOutOf : ab_B y_Ws_movedOutOf b_Ws_movedOutOf 6 (some .long) 2 := ⟨(ab_mem (List.mem_append_right _ (List.mem_of_getElem? (i := 395) rfl)) rfl), in_Ws, by decide +kernel⟩
theorem im_Ws_movedOutOf : Cond.instanceMethod y_Ws_movedOutOf ∈ ab_tbl := (ab_mem (List.mem_append_right _ (List.mem_of_getElem? (i := 394) rfl)) rfl)
theorem se_Ws_movedOutOf : Cond.selects "HiddenRows$WaySums" y_Ws_movedOutOf y_Ws_movedOutOf ∈ ab_tbl := (ab_mem (List.mem_append_left _ (List.mem_of_getElem? (i := 6) rfl)) rfl)
theorem fb_Ws_sumFromAhead : ab_B y_Ws_sumFromAhead b_Ws_sumFromAhead 3 none 0 := ⟨(ab_mem (List.mem_append_right _ (List.mem_of_getElem? (i := 399) rfl)) rfl), in_Ws, by decide +kernel⟩
theorem im_Ws_sumFromAhead : Cond.instanceMethod y_Ws_sumFromAhead ∈ ab_tbl := (ab_mem (List.mem_append_right _ (List.mem_of_getElem? (i := 398) rfl)) rfl)
theorem se_Ws_sumFromAhead : Cond.selects "HiddenRows$WaySums" y_Ws_sumFromAhead y_Ws_sumFromAhead ∈ ab_tbl := (ab_mem (List.mem_append_left _ (List.mem_of_getElem? (i := 7) rfl)) rfl)
theorem fb_Ws_movedInto : ab_B y_Ws_movedInto b_Ws_movedInto 6 (some .long) 2 := ⟨(ab_mem (List.mem_append_right _ (List.mem_of_getElem? (i := 403) rfl)) rfl), in_Ws, by decide +kernel⟩
theorem im_Ws_movedInto : Cond.instanceMethod y_Ws_movedInto ∈ ab_tbl := (ab_mem (List.mem_append_right _ (List.mem_of_getElem? (i := 402) rfl)) rfl)
theorem se_Ws_movedInto : Cond.selects "HiddenRows$WaySums" y_Ws_movedInto y_Ws_movedInto ∈ ab_tbl := (ab_mem (List.mem_append_left _ (List.mem_of_getElem? (i := 8) rfl)) rfl)
theorem fb_Ws_endedBefore : ab_B y_Ws_endedBefore b_Ws_endedBefore 6 (some .long) 2 := ⟨(ab_mem (List.mem_append_right _ (List.mem_of_getElem? (i := 407) rfl)) rfl), in_Ws, by decide +kernel⟩
theorem im_Ws_endedBefore : Cond.instanceMethod y_Ws_endedBefore ∈ ab_tbl := (ab_mem (List.mem_append_right _ (List.mem_of_getElem? (i := 406) rfl)) rfl)
theorem se_Ws_endedBefore : Cond.selects "HiddenRows$WaySums" y_Ws_endedBefore y_Ws_endedBefore ∈ ab_tbl := (ab_mem (List.mem_append_left _ (List.mem_of_getElem? (i := 9) rfl)) rfl)
theorem fb_H_ways : ab_B y_H_ways b_H_ways 1 (some .int) 0 := ⟨(ab_mem (List.mem_append_right _ (List.mem_of_getElem? (i := 411) rfl)) rfl), in_H, by decide +kernel⟩
theorem im_H_ways : Cond.instanceMethod y_H_ways ∈ ab_tbl := (ab_mem (List.mem_append_right _ (List.mem_of_getElem? (i := 409) rfl)) rfl)
theorem se_H_ways : Cond.selects "HiddenRows" y_H_ways y_H_ways ∈ ab_tbl := (ab_mem (List.mem_append_right _ (List.mem_of_getElem? (i := 410) rfl)) rfl)
theorem fb_H_share : ab_B y_H_share b_H_share 4 (some .long) 3 := ⟨(ab_mem (List.mem_append_right _ (List.mem_of_getElem? (i := 415) rfl)) rfl), in_H, by decide +kernel⟩
theorem im_H_share : Cond.instanceMethod y_H_share ∈ ab_tbl := (ab_mem (List.mem_append_right _ (List.mem_of_getElem? (i := 413) rfl)) rfl)
theorem se_H_share : Cond.selects "HiddenRows" y_H_share y_H_share ∈ ab_tbl := (ab_mem (List.mem_append_right _ (List.mem_of_getElem? (i := 414) rfl)) rfl)
theorem fb_H_isPart : ab_B y_H_isPart b_H_isPart 1 (some .boolean) 1 := ⟨(ab_mem (List.mem_append_right _ (List.mem_of_getElem? (i := 419) rfl)) rfl), in_H, by decide +kernel⟩
theorem sm_H_isPart : Cond.static y_H_isPart ∈ ab_tbl := (ab_mem (List.mem_append_right _ (List.mem_of_getElem? (i := 418) rfl)) rfl)
theorem fb_Ws_over : ab_B y_Ws_over b_Ws_over 6 (some .long) 2 := ⟨(ab_mem (List.mem_append_right _ (List.mem_of_getElem? (i := 424) rfl)) rfl), in_Ws, by decide +kernel⟩
theorem im_Ws_over : Cond.instanceMethod y_Ws_over ∈ ab_tbl := (ab_mem (List.mem_append_right _ (List.mem_of_getElem? (i := 422) rfl)) rfl)
theorem se_Ws_over : Cond.selects "HiddenRows$WaySums" y_Ws_over y_Ws_over ∈ ab_tbl := (ab_mem (List.mem_append_right _ (List.mem_of_getElem? (i := 423) rfl)) rfl)
theorem fb_H_lowestTerms : ab_B y_H_lowestTerms b_H_lowestTerms 7 (some .long) 3 := ⟨(ab_mem (List.mem_append_right _ (List.mem_of_getElem? (i := 430) rfl)) rfl), in_H, by decide +kernel⟩
theorem sm_H_lowestTerms : Cond.static y_H_lowestTerms ∈ ab_tbl := (ab_mem (List.mem_append_right _ (List.mem_of_getElem? (i := 429) rfl)) rfl)
theorem fb_H_commonDivisor : ab_B y_H_commonDivisor b_H_commonDivisor 11 (some .long) 2 := ⟨(ab_mem (List.mem_append_right _ (List.mem_of_getElem? (i := 434) rfl)) rfl), in_H, by decide +kernel⟩
theorem sm_H_commonDivisor : Cond.static y_H_commonDivisor ∈ ab_tbl := (ab_mem (List.mem_append_right _ (List.mem_of_getElem? (i := 433) rfl)) rfl)
theorem fb_H_begin : ab_B y_H_begin b_H_begin 4 (some .long) 3 := ⟨(ab_mem (List.mem_append_right _ (List.mem_of_getElem? (i := 438) rfl)) rfl), in_H, by decide +kernel⟩
theorem im_H_begin : Cond.instanceMethod y_H_begin ∈ ab_tbl := (ab_mem (List.mem_append_right _ (List.mem_of_getElem? (i := 436) rfl)) rfl)
theorem se_H_begin : Cond.selects "HiddenRows" y_H_begin y_H_begin ∈ ab_tbl := (ab_mem (List.mem_append_right _ (List.mem_of_getElem? (i := 437) rfl)) rfl)
theorem fb_Ws_beginning : ab_B y_Ws_beginning b_Ws_beginning 3 (some .long) 2 := ⟨(ab_mem (List.mem_append_right _ (List.mem_of_getElem? (i := 442) rfl)) rfl), in_Ws, by decide +kernel⟩
theorem im_Ws_beginning : Cond.instanceMethod y_Ws_beginning ∈ ab_tbl := (ab_mem (List.mem_append_right _ (List.mem_of_getElem? (i := 440) rfl)) rfl)
theorem se_Ws_beginning : Cond.selects "HiddenRows$WaySums" y_Ws_beginning y_Ws_beginning ∈ ab_tbl := (ab_mem (List.mem_append_right _ (List.mem_of_getElem? (i := 441) rfl)) rfl)
theorem fb_H_pair : ab_B y_H_pair b_H_pair 5 (some .long) 4 := ⟨(ab_mem (List.mem_append_right _ (List.mem_of_getElem? (i := 446) rfl)) rfl), in_H, by decide +kernel⟩
theorem im_H_pair : Cond.instanceMethod y_H_pair ∈ ab_tbl := (ab_mem (List.mem_append_right _ (List.mem_of_getElem? (i := 444) rfl)) rfl)
theorem se_H_pair : Cond.selects "HiddenRows" y_H_pair y_H_pair ∈ ab_tbl := (ab_mem (List.mem_append_right _ (List.mem_of_getElem? (i := 445) rfl)) rfl)
theorem fb_Ws_moving : ab_B y_Ws_moving b_Ws_moving 4 (some .long) 3 := ⟨(ab_mem (List.mem_append_right _ (List.mem_of_getElem? (i := 450) rfl)) rfl), in_Ws, by decide +kernel⟩
theorem im_Ws_moving : Cond.instanceMethod y_Ws_moving ∈ ab_tbl := (ab_mem (List.mem_append_right _ (List.mem_of_getElem? (i := 448) rfl)) rfl)
theorem se_Ws_moving : Cond.selects "HiddenRows$WaySums" y_Ws_moving y_Ws_moving ∈ ab_tbl := (ab_mem (List.mem_append_right _ (List.mem_of_getElem? (i := 449) rfl)) rfl)
set_option maxRecDepth 20000 in
theorem fb_H_top : ab_B y_H_top b_H_top 4 (some .int) 1 := ⟨(ab_mem (List.mem_append_right _ (List.mem_of_getElem? (i := 454) rfl)) rfl), in_H, by decide +kernel⟩
set_option maxRecDepth 20000 in
theorem im_H_top : Cond.instanceMethod y_H_top ∈ ab_tbl := (ab_mem (List.mem_append_right _ (List.mem_of_getElem? (i := 452) rfl)) rfl)
set_option maxRecDepth 20000 in
theorem se_H_top : Cond.selects "HiddenRows" y_H_top y_H_top ∈ ab_tbl := (ab_mem (List.mem_append_right _ (List.mem_of_getElem? (i := 453) rfl)) rfl)
set_option maxRecDepth 20000 in
theorem fb_H_best : ab_B y_H_best b_H_best 3 (some .long) 1 := ⟨(ab_mem (List.mem_append_right _ (List.mem_of_getElem? (i := 458) rfl)) rfl), in_H, by decide +kernel⟩
set_option maxRecDepth 20000 in
theorem im_H_best : Cond.instanceMethod y_H_best ∈ ab_tbl := (ab_mem (List.mem_append_right _ (List.mem_of_getElem? (i := 456) rfl)) rfl)
set_option maxRecDepth 20000 in
theorem se_H_best : Cond.selects "HiddenRows" y_H_best y_H_best ∈ ab_tbl := (ab_mem (List.mem_append_right _ (List.mem_of_getElem? (i := 457) rfl)) rfl)
set_option maxRecDepth 20000 in
theorem fb_Bw_list : ab_B y_Bw_list b_Bw_list 3 (some (.object "HiddenRows$WayList")) 0 := ⟨(ab_mem (List.mem_append_right _ (List.mem_of_getElem? (i := 462) rfl)) rfl), in_Bw, by decide +kernel⟩
set_option maxRecDepth 20000 in
theorem im_Bw_list : Cond.instanceMethod y_Bw_list ∈ ab_tbl := (ab_mem (List.mem_append_right _ (List.mem_of_getElem? (i := 460) rfl)) rfl)
set_option maxRecDepth 20000 in
theorem se_Bw_list : Cond.selects "HiddenRows$BestWays" y_Bw_list y_Bw_list ∈ ab_tbl := (ab_mem (List.mem_append_right _ (List.mem_of_getElem? (i := 461) rfl)) rfl)
set_option maxRecDepth 20000 in
theorem fb_Bw_listEnds : ab_B y_Bw_listEnds b_Bw_listEnds 8 none 2 := ⟨(ab_mem (List.mem_append_right _ (List.mem_of_getElem? (i := 467) rfl)) rfl), in_Bw, by decide +kernel⟩
set_option maxRecDepth 20000 in
theorem im_Bw_listEnds : Cond.instanceMethod y_Bw_listEnds ∈ ab_tbl := (ab_mem (List.mem_append_right _ (List.mem_of_getElem? (i := 466) rfl)) rfl)
theorem se_Bw_listEnds : Cond.selects "HiddenRows$BestWays" y_Bw_listEnds y_Bw_listEnds ∈ ab_tbl := (ab_mem (List.mem_append_left _ (List.mem_of_getElem? (i := 10) rfl)) rfl)
set_option maxRecDepth 20000 in
theorem fb_Bw_endsFrom : ab_B y_Bw_endsFrom b_Bw_endsFrom 3 (some (.object "HiddenRows$WayList")) 2 := ⟨(ab_mem (List.mem_append_right _ (List.mem_of_getElem? (i := 471) rfl)) rfl), in_Bw, by decide +kernel⟩
set_option maxRecDepth 20000 in
theorem im_Bw_endsFrom : Cond.instanceMethod y_Bw_endsFrom ∈ ab_tbl := (ab_mem (List.mem_append_right _ (List.mem_of_getElem? (i := 470) rfl)) rfl)
theorem se_Bw_endsFrom : Cond.selects "HiddenRows$BestWays" y_Bw_endsFrom y_Bw_endsFrom ∈ ab_tbl := (ab_mem (List.mem_append_left _ (List.mem_of_getElem? (i := 11) rfl)) rfl)
set_option maxRecDepth 20000 in
theorem fb_Wl_offer : ab_B y_Wl_offer b_Wl_offer 6 (some .boolean) 2 := ⟨(ab_mem (List.mem_append_right _ (List.mem_of_getElem? (i := 476) rfl)) rfl), in_Wl, by decide +kernel⟩
set_option maxRecDepth 20000 in
theorem im_Wl_offer : Cond.instanceMethod y_Wl_offer ∈ ab_tbl := (ab_mem (List.mem_append_right _ (List.mem_of_getElem? (i := 474) rfl)) rfl)
set_option maxRecDepth 20000 in
theorem se_Wl_offer : Cond.selects "HiddenRows$WayList" y_Wl_offer y_Wl_offer ∈ ab_tbl := (ab_mem (List.mem_append_right _ (List.mem_of_getElem? (i := 475) rfl)) rfl)
set_option maxRecDepth 20000 in
theorem fb_Wl_isBetter : ab_B y_Wl_isBetter b_Wl_isBetter 5 (some .boolean) 3 := ⟨(ab_mem (List.mem_append_right _ (List.mem_of_getElem? (i := 480) rfl)) rfl), in_Wl, by decide +kernel⟩
set_option maxRecDepth 20000 in
theorem im_Wl_isBetter : Cond.instanceMethod y_Wl_isBetter ∈ ab_tbl := (ab_mem (List.mem_append_right _ (List.mem_of_getElem? (i := 479) rfl)) rfl)
theorem se_Wl_isBetter : Cond.selects "HiddenRows$WayList" y_Wl_isBetter y_Wl_isBetter ∈ ab_tbl := (ab_mem (List.mem_append_left _ (List.mem_of_getElem? (i := 12) rfl)) rfl)
set_option maxRecDepth 20000 in
theorem fb_Bw_offerMoves : ab_B y_Bw_offerMoves b_Bw_offerMoves 9 none 5 := ⟨(ab_mem (List.mem_append_right _ (List.mem_of_getElem? (i := 487) rfl)) rfl), in_Bw, by decide +kernel⟩
set_option maxRecDepth 20000 in
theorem im_Bw_offerMoves : Cond.instanceMethod y_Bw_offerMoves ∈ ab_tbl := (ab_mem (List.mem_append_right _ (List.mem_of_getElem? (i := 486) rfl)) rfl)
theorem se_Bw_offerMoves : Cond.selects "HiddenRows$BestWays" y_Bw_offerMoves y_Bw_offerMoves ∈ ab_tbl := (ab_mem (List.mem_append_left _ (List.mem_of_getElem? (i := 13) rfl)) rfl)
set_option maxRecDepth 20000 in
theorem fb_Bw_offerAll : ab_B y_Bw_offerAll b_Bw_offerAll 6 none 4 := ⟨(ab_mem (List.mem_append_right _ (List.mem_of_getElem? (i := 490) rfl)) rfl), in_Bw, by decide +kernel⟩
set_option maxRecDepth 20000 in
theorem sm_Bw_offerAll : Cond.static y_Bw_offerAll ∈ ab_tbl := (ab_mem (List.mem_append_right _ (List.mem_of_getElem? (i := 489) rfl)) rfl)
set_option maxRecDepth 20000 in
theorem fb_Bw_listWhole : ab_B y_Bw_listWhole b_Bw_listWhole 2 none 0 := ⟨(ab_mem (List.mem_append_right _ (List.mem_of_getElem? (i := 494) rfl)) rfl), in_Bw, by decide +kernel⟩
set_option maxRecDepth 20000 in
theorem im_Bw_listWhole : Cond.instanceMethod y_Bw_listWhole ∈ ab_tbl := (ab_mem (List.mem_append_right _ (List.mem_of_getElem? (i := 493) rfl)) rfl)
theorem se_Bw_listWhole : Cond.selects "HiddenRows$BestWays" y_Bw_listWhole y_Bw_listWhole ∈ ab_tbl := (ab_mem (List.mem_append_left _ (List.mem_of_getElem? (i := 14) rfl)) rfl)
set_option maxRecDepth 20000 in
theorem fb_H_bestAt : ab_B y_H_bestAt b_H_bestAt 4 (some .int) 2 := ⟨(ab_mem (List.mem_append_right _ (List.mem_of_getElem? (i := 498) rfl)) rfl), in_H, by decide +kernel⟩
set_option maxRecDepth 20000 in
theorem im_H_bestAt : Cond.instanceMethod y_H_bestAt ∈ ab_tbl := (ab_mem (List.mem_append_right _ (List.mem_of_getElem? (i := 496) rfl)) rfl)
set_option maxRecDepth 20000 in
theorem se_H_bestAt : Cond.selects "HiddenRows" y_H_bestAt y_H_bestAt ∈ ab_tbl := (ab_mem (List.mem_append_right _ (List.mem_of_getElem? (i := 497) rfl)) rfl)
set_option maxRecDepth 20000 in
theorem fb_Ro_toldAt : ab_B y_Ro_toldAt b_Ro_toldAt 3 (some .int) 2 := ⟨(ab_mem (List.mem_append_right _ (List.mem_of_getElem? (i := 502) rfl)) rfl), in_Ro, by decide +kernel⟩
set_option maxRecDepth 20000 in
theorem im_Ro_toldAt : Cond.instanceMethod y_Ro_toldAt ∈ ab_tbl := (ab_mem (List.mem_append_right _ (List.mem_of_getElem? (i := 500) rfl)) rfl)
set_option maxRecDepth 20000 in
theorem se_Ro_toldAt : Cond.selects "HiddenRows$Row" y_Ro_toldAt y_Ro_toldAt ∈ ab_tbl := (ab_mem (List.mem_append_right _ (List.mem_of_getElem? (i := 501) rfl)) rfl)
set_option maxRecDepth 20000 in
theorem fb_H_drawn : ab_B y_H_drawn b_H_drawn 4 (some .long) 1 := ⟨(ab_mem (List.mem_append_right _ (List.mem_of_getElem? (i := 506) rfl)) rfl), in_H, by decide +kernel⟩
set_option maxRecDepth 20000 in
theorem im_H_drawn : Cond.instanceMethod y_H_drawn ∈ ab_tbl := (ab_mem (List.mem_append_right _ (List.mem_of_getElem? (i := 504) rfl)) rfl)
set_option maxRecDepth 20000 in
theorem se_H_drawn : Cond.selects "HiddenRows" y_H_drawn y_H_drawn ∈ ab_tbl := (ab_mem (List.mem_append_right _ (List.mem_of_getElem? (i := 505) rfl)) rfl)
set_option maxRecDepth 20000 in
theorem fb_Dr_spread : ab_B y_Dr_spread b_Dr_spread 3 (some .long) 1 := ⟨(ab_mem (List.mem_append_right _ (List.mem_of_getElem? (i := 509) rfl)) rfl), in_Dr, by decide +kernel⟩
set_option maxRecDepth 20000 in
theorem sm_Dr_spread : Cond.static y_Dr_spread ∈ ab_tbl := (ab_mem (List.mem_append_right _ (List.mem_of_getElem? (i := 508) rfl)) rfl)
set_option maxRecDepth 20000 in
theorem fb_Dr_draw : ab_B y_Dr_draw b_Dr_draw 6 (some .long) 1 := ⟨(ab_mem (List.mem_append_right _ (List.mem_of_getElem? (i := 516) rfl)) rfl), in_Dr, by decide +kernel⟩
set_option maxRecDepth 20000 in
theorem im_Dr_draw : Cond.instanceMethod y_Dr_draw ∈ ab_tbl := (ab_mem (List.mem_append_right _ (List.mem_of_getElem? (i := 514) rfl)) rfl)
set_option maxRecDepth 20000 in
theorem se_Dr_draw : Cond.selects "HiddenRows$Drawing" y_Dr_draw y_Dr_draw ∈ ab_tbl := (ab_mem (List.mem_append_right _ (List.mem_of_getElem? (i := 515) rfl)) rfl)
set_option maxRecDepth 20000 in
theorem fb_Dr_openSegment : ab_B y_Dr_openSegment b_Dr_openSegment 3 (some .long) 1 := ⟨(ab_mem (List.mem_append_right _ (List.mem_of_getElem? (i := 521) rfl)) rfl), in_Dr, by decide +kernel⟩
set_option maxRecDepth 20000 in
theorem im_Dr_openSegment : Cond.instanceMethod y_Dr_openSegment ∈ ab_tbl := (ab_mem (List.mem_append_right _ (List.mem_of_getElem? (i := 520) rfl)) rfl)
theorem se_Dr_openSegment : Cond.selects "HiddenRows$Drawing" y_Dr_openSegment y_Dr_openSegment ∈ ab_tbl := (ab_mem (List.mem_append_left _ (List.mem_of_getElem? (i := 15) rfl)) rfl)
set_option maxRecDepth 20000 in
theorem fb_Dr_tellPlace : ab_B y_Dr_tellPlace b_Dr_tellPlace 9 (some .long) 2 := ⟨(ab_mem (List.mem_append_right _ (List.mem_of_getElem? (i := 526) rfl)) rfl), in_Dr, by decide +kernel⟩
set_option maxRecDepth 20000 in
theorem im_Dr_tellPlace : Cond.instanceMethod y_Dr_tellPlace ∈ ab_tbl := (ab_mem (List.mem_append_right _ (List.mem_of_getElem? (i := 525) rfl)) rfl)
theorem se_Dr_tellPlace : Cond.selects "HiddenRows$Drawing" y_Dr_tellPlace y_Dr_tellPlace ∈ ab_tbl := (ab_mem (List.mem_append_left _ (List.mem_of_getElem? (i := 16) rfl)) rfl)
set_option maxRecDepth 20000 in
theorem fb_Dr_sumTelling : ab_B y_Dr_sumTelling b_Dr_sumTelling 4 (some .long) 2 := ⟨(ab_mem (List.mem_append_right _ (List.mem_of_getElem? (i := 530) rfl)) rfl), in_Dr, by decide +kernel⟩
set_option maxRecDepth 20000 in
theorem im_Dr_sumTelling : Cond.instanceMethod y_Dr_sumTelling ∈ ab_tbl := (ab_mem (List.mem_append_right _ (List.mem_of_getElem? (i := 529) rfl)) rfl)
theorem se_Dr_sumTelling : Cond.selects "HiddenRows$Drawing" y_Dr_sumTelling y_Dr_sumTelling ∈ ab_tbl := (ab_mem (List.mem_append_left _ (List.mem_of_getElem? (i := 17) rfl)) rfl)
set_option maxRecDepth 20000 in
theorem fb_Dr_closing : ab_B y_Dr_closing b_Dr_closing 3 (some .long) 2 := ⟨(ab_mem (List.mem_append_right _ (List.mem_of_getElem? (i := 534) rfl)) rfl), in_Dr, by decide +kernel⟩
set_option maxRecDepth 20000 in
theorem im_Dr_closing : Cond.instanceMethod y_Dr_closing ∈ ab_tbl := (ab_mem (List.mem_append_right _ (List.mem_of_getElem? (i := 533) rfl)) rfl)
theorem se_Dr_closing : Cond.selects "HiddenRows$Drawing" y_Dr_closing y_Dr_closing ∈ ab_tbl := (ab_mem (List.mem_append_left _ (List.mem_of_getElem? (i := 18) rfl)) rfl)
set_option maxRecDepth 20000 in
theorem fb_Dr_take : ab_B y_Dr_take b_Dr_take 3 none 2 := ⟨(ab_mem (List.mem_append_right _ (List.mem_of_getElem? (i := 539) rfl)) rfl), in_Dr, by decide +kernel⟩
set_option maxRecDepth 20000 in
theorem im_Dr_take : Cond.instanceMethod y_Dr_take ∈ ab_tbl := (ab_mem (List.mem_append_right _ (List.mem_of_getElem? (i := 538) rfl)) rfl)
theorem se_Dr_take : Cond.selects "HiddenRows$Drawing" y_Dr_take y_Dr_take ∈ ab_tbl := (ab_mem (List.mem_append_left _ (List.mem_of_getElem? (i := 19) rfl)) rfl)
set_option maxRecDepth 20000 in
theorem fb_H_drawnAt : ab_B y_H_drawnAt b_H_drawnAt 2 (some .int) 1 := ⟨(ab_mem (List.mem_append_right _ (List.mem_of_getElem? (i := 543) rfl)) rfl), in_H, by decide +kernel⟩
set_option maxRecDepth 20000 in
theorem im_H_drawnAt : Cond.instanceMethod y_H_drawnAt ∈ ab_tbl := (ab_mem (List.mem_append_right _ (List.mem_of_getElem? (i := 541) rfl)) rfl)
set_option maxRecDepth 20000 in
theorem se_H_drawnAt : Cond.selects "HiddenRows" y_H_drawnAt y_H_drawnAt ∈ ab_tbl := (ab_mem (List.mem_append_right _ (List.mem_of_getElem? (i := 542) rfl)) rfl)
set_option maxRecDepth 20000 in
theorem fb_H_trees : ab_B y_H_trees b_H_trees 2 (some .long) 1 := ⟨(ab_mem (List.mem_append_right _ (List.mem_of_getElem? (i := 547) rfl)) rfl), in_H, by decide +kernel⟩
set_option maxRecDepth 20000 in
theorem im_H_trees : Cond.instanceMethod y_H_trees ∈ ab_tbl := (ab_mem (List.mem_append_right _ (List.mem_of_getElem? (i := 545) rfl)) rfl)
set_option maxRecDepth 20000 in
theorem se_H_trees : Cond.selects "HiddenRows" y_H_trees y_H_trees ∈ ab_tbl := (ab_mem (List.mem_append_right _ (List.mem_of_getElem? (i := 546) rfl)) rfl)
set_option maxRecDepth 20000 in
theorem fb_Tt_sumOfAll : ab_B y_Tt_sumOfAll b_Tt_sumOfAll 2 (some .long) 1 := ⟨(ab_mem (List.mem_append_right _ (List.mem_of_getElem? (i := 551) rfl)) rfl), in_Tt, by decide +kernel⟩
set_option maxRecDepth 20000 in
theorem im_Tt_sumOfAll : Cond.instanceMethod y_Tt_sumOfAll ∈ ab_tbl := (ab_mem (List.mem_append_right _ (List.mem_of_getElem? (i := 549) rfl)) rfl)
set_option maxRecDepth 20000 in
theorem se_Tt_sumOfAll : Cond.selects "HiddenRows$TreeTables" y_Tt_sumOfAll y_Tt_sumOfAll ∈ ab_tbl := (ab_mem (List.mem_append_right _ (List.mem_of_getElem? (i := 550) rfl)) rfl)
set_option maxRecDepth 20000 in
theorem fb_Tt_refresh : ab_B y_Tt_refresh b_Tt_refresh 4 none 0 := ⟨(ab_mem (List.mem_append_right _ (List.mem_of_getElem? (i := 555) rfl)) rfl), in_Tt, by decide +kernel⟩
set_option maxRecDepth 20000 in
theorem im_Tt_refresh : Cond.instanceMethod y_Tt_refresh ∈ ab_tbl := (ab_mem (List.mem_append_right _ (List.mem_of_getElem? (i := 554) rfl)) rfl)
theorem se_Tt_refresh : Cond.selects "HiddenRows$TreeTables" y_Tt_refresh y_Tt_refresh ∈ ab_tbl := (ab_mem (List.mem_append_left _ (List.mem_of_getElem? (i := 20) rfl)) rfl)
set_option maxRecDepth 20000 in
theorem fb_Tt_fill : ab_B y_Tt_fill b_Tt_fill 8 none 3 := ⟨(ab_mem (List.mem_append_right _ (List.mem_of_getElem? (i := 559) rfl)) rfl), in_Tt, by decide +kernel⟩
set_option maxRecDepth 20000 in
theorem im_Tt_fill : Cond.instanceMethod y_Tt_fill ∈ ab_tbl := (ab_mem (List.mem_append_right _ (List.mem_of_getElem? (i := 558) rfl)) rfl)
theorem se_Tt_fill : Cond.selects "HiddenRows$TreeTables" y_Tt_fill y_Tt_fill ∈ ab_tbl := (ab_mem (List.mem_append_left _ (List.mem_of_getElem? (i := 21) rfl)) rfl)
set_option maxRecDepth 20000 in
theorem fb_Tt_spanOf : ab_B y_Tt_spanOf b_Tt_spanOf 2 (some .int) 2 := ⟨(ab_mem (List.mem_append_right _ (List.mem_of_getElem? (i := 562) rfl)) rfl), in_Tt, by decide +kernel⟩
set_option maxRecDepth 20000 in
theorem sm_Tt_spanOf : Cond.static y_Tt_spanOf ∈ ab_tbl := (ab_mem (List.mem_append_right _ (List.mem_of_getElem? (i := 561) rfl)) rfl)
set_option maxRecDepth 20000 in
theorem fb_Ki_leafOf : ab_B y_Ki_leafOf b_Ki_leafOf 5 (some .int) 2 := ⟨(ab_mem (List.mem_append_right _ (List.mem_of_getElem? (i := 566) rfl)) rfl), in_Ki, by decide +kernel⟩
set_option maxRecDepth 20000 in
theorem im_Ki_leafOf : Cond.instanceMethod y_Ki_leafOf ∈ ab_tbl := (ab_mem (List.mem_append_right _ (List.mem_of_getElem? (i := 564) rfl)) rfl)
set_option maxRecDepth 20000 in
theorem se_Ki_leafOf : Cond.selects "HiddenRows$Kinds" y_Ki_leafOf y_Ki_leafOf ∈ ab_tbl := (ab_mem (List.mem_append_right _ (List.mem_of_getElem? (i := 565) rfl)) rfl)
set_option maxRecDepth 20000 in
theorem fb_Tt_addSplit : ab_B y_Tt_addSplit b_Tt_addSplit 9 none 4 := ⟨(ab_mem (List.mem_append_right _ (List.mem_of_getElem? (i := 573) rfl)) rfl), in_Tt, by decide +kernel⟩
set_option maxRecDepth 20000 in
theorem im_Tt_addSplit : Cond.instanceMethod y_Tt_addSplit ∈ ab_tbl := (ab_mem (List.mem_append_right _ (List.mem_of_getElem? (i := 572) rfl)) rfl)
theorem se_Tt_addSplit : Cond.selects "HiddenRows$TreeTables" y_Tt_addSplit y_Tt_addSplit ∈ ab_tbl := (ab_mem (List.mem_append_left _ (List.mem_of_getElem? (i := 22) rfl)) rfl)
set_option maxRecDepth 20000 in
theorem fb_H_treeCount : ab_B y_H_treeCount b_H_treeCount 2 (some .long) 1 := ⟨(ab_mem (List.mem_append_right _ (List.mem_of_getElem? (i := 581) rfl)) rfl), in_H, by decide +kernel⟩
set_option maxRecDepth 20000 in
theorem im_H_treeCount : Cond.instanceMethod y_H_treeCount ∈ ab_tbl := (ab_mem (List.mem_append_right _ (List.mem_of_getElem? (i := 579) rfl)) rfl)
set_option maxRecDepth 20000 in
theorem se_H_treeCount : Cond.selects "HiddenRows" y_H_treeCount y_H_treeCount ∈ ab_tbl := (ab_mem (List.mem_append_right _ (List.mem_of_getElem? (i := 580) rfl)) rfl)
set_option maxRecDepth 20000 in
theorem fb_Tt_countOfAll : ab_B y_Tt_countOfAll b_Tt_countOfAll 2 (some .long) 1 := ⟨(ab_mem (List.mem_append_right _ (List.mem_of_getElem? (i := 585) rfl)) rfl), in_Tt, by decide +kernel⟩
set_option maxRecDepth 20000 in
theorem im_Tt_countOfAll : Cond.instanceMethod y_Tt_countOfAll ∈ ab_tbl := (ab_mem (List.mem_append_right _ (List.mem_of_getElem? (i := 583) rfl)) rfl)
set_option maxRecDepth 20000 in
theorem se_Tt_countOfAll : Cond.selects "HiddenRows$TreeTables" y_Tt_countOfAll y_Tt_countOfAll ∈ ab_tbl := (ab_mem (List.mem_append_right _ (List.mem_of_getElem? (i := 584) rfl)) rfl)
set_option maxRecDepth 20000 in
theorem fb_H_treeBest : ab_B y_H_treeBest b_H_treeBest 2 (some .long) 1 := ⟨(ab_mem (List.mem_append_right _ (List.mem_of_getElem? (i := 589) rfl)) rfl), in_H, by decide +kernel⟩
set_option maxRecDepth 20000 in
theorem im_H_treeBest : Cond.instanceMethod y_H_treeBest ∈ ab_tbl := (ab_mem (List.mem_append_right _ (List.mem_of_getElem? (i := 587) rfl)) rfl)
set_option maxRecDepth 20000 in
theorem se_H_treeBest : Cond.selects "HiddenRows" y_H_treeBest y_H_treeBest ∈ ab_tbl := (ab_mem (List.mem_append_right _ (List.mem_of_getElem? (i := 588) rfl)) rfl)
set_option maxRecDepth 20000 in
theorem fb_Tt_bestOfAll : ab_B y_Tt_bestOfAll b_Tt_bestOfAll 2 (some .long) 1 := ⟨(ab_mem (List.mem_append_right _ (List.mem_of_getElem? (i := 593) rfl)) rfl), in_Tt, by decide +kernel⟩
set_option maxRecDepth 20000 in
theorem im_Tt_bestOfAll : Cond.instanceMethod y_Tt_bestOfAll ∈ ab_tbl := (ab_mem (List.mem_append_right _ (List.mem_of_getElem? (i := 591) rfl)) rfl)
set_option maxRecDepth 20000 in
theorem se_Tt_bestOfAll : Cond.selects "HiddenRows$TreeTables" y_Tt_bestOfAll y_Tt_bestOfAll ∈ ab_tbl := (ab_mem (List.mem_append_right _ (List.mem_of_getElem? (i := 592) rfl)) rfl)
set_option maxRecDepth 20000 in
theorem fb_H_treeAt : ab_B y_H_treeAt b_H_treeAt 3 (some .int) 2 := ⟨(ab_mem (List.mem_append_right _ (List.mem_of_getElem? (i := 597) rfl)) rfl), in_H, by decide +kernel⟩
set_option maxRecDepth 20000 in
theorem im_H_treeAt : Cond.instanceMethod y_H_treeAt ∈ ab_tbl := (ab_mem (List.mem_append_right _ (List.mem_of_getElem? (i := 595) rfl)) rfl)
set_option maxRecDepth 20000 in
theorem se_H_treeAt : Cond.selects "HiddenRows" y_H_treeAt y_H_treeAt ∈ ab_tbl := (ab_mem (List.mem_append_right _ (List.mem_of_getElem? (i := 596) rfl)) rfl)
set_option maxRecDepth 20000 in
theorem fb_Tt_bestTells : ab_B y_Tt_bestTells b_Tt_bestTells 5 (some .int) 2 := ⟨(ab_mem (List.mem_append_right _ (List.mem_of_getElem? (i := 601) rfl)) rfl), in_Tt, by decide +kernel⟩
set_option maxRecDepth 20000 in
theorem im_Tt_bestTells : Cond.instanceMethod y_Tt_bestTells ∈ ab_tbl := (ab_mem (List.mem_append_right _ (List.mem_of_getElem? (i := 599) rfl)) rfl)
set_option maxRecDepth 20000 in
theorem se_Tt_bestTells : Cond.selects "HiddenRows$TreeTables" y_Tt_bestTells y_Tt_bestTells ∈ ab_tbl := (ab_mem (List.mem_append_right _ (List.mem_of_getElem? (i := 600) rfl)) rfl)
set_option maxRecDepth 20000 in
theorem fb_Tt_push : ab_B y_Tt_push b_Tt_push 3 none 2 := ⟨(ab_mem (List.mem_append_right _ (List.mem_of_getElem? (i := 605) rfl)) rfl), in_Tt, by decide +kernel⟩
set_option maxRecDepth 20000 in
theorem im_Tt_push : Cond.instanceMethod y_Tt_push ∈ ab_tbl := (ab_mem (List.mem_append_right _ (List.mem_of_getElem? (i := 604) rfl)) rfl)
theorem se_Tt_push : Cond.selects "HiddenRows$TreeTables" y_Tt_push y_Tt_push ∈ ab_tbl := (ab_mem (List.mem_append_left _ (List.mem_of_getElem? (i := 23) rfl)) rfl)
set_option maxRecDepth 20000 in
theorem fb_Tt_tellNode : ab_B y_Tt_tellNode b_Tt_tellNode 11 (some .int) 2 := ⟨(ab_mem (List.mem_append_right _ (List.mem_of_getElem? (i := 609) rfl)) rfl), in_Tt, by decide +kernel⟩
set_option maxRecDepth 20000 in
theorem im_Tt_tellNode : Cond.instanceMethod y_Tt_tellNode ∈ ab_tbl := (ab_mem (List.mem_append_right _ (List.mem_of_getElem? (i := 608) rfl)) rfl)
theorem se_Tt_tellNode : Cond.selects "HiddenRows$TreeTables" y_Tt_tellNode y_Tt_tellNode ∈ ab_tbl := (ab_mem (List.mem_append_left _ (List.mem_of_getElem? (i := 24) rfl)) rfl)
set_option maxRecDepth 20000 in
theorem fb_Tt_bestParts : ab_B y_Tt_bestParts b_Tt_bestParts 9 (some .int) 4 := ⟨(ab_mem (List.mem_append_right _ (List.mem_of_getElem? (i := 613) rfl)) rfl), in_Tt, by decide +kernel⟩
set_option maxRecDepth 20000 in
theorem im_Tt_bestParts : Cond.instanceMethod y_Tt_bestParts ∈ ab_tbl := (ab_mem (List.mem_append_right _ (List.mem_of_getElem? (i := 612) rfl)) rfl)
theorem se_Tt_bestParts : Cond.selects "HiddenRows$TreeTables" y_Tt_bestParts y_Tt_bestParts ∈ ab_tbl := (ab_mem (List.mem_append_left _ (List.mem_of_getElem? (i := 25) rfl)) rfl)
set_option maxRecDepth 20000 in
theorem fb_H_span : ab_B y_H_span b_H_span 6 (some .long) 5 := ⟨(ab_mem (List.mem_append_right _ (List.mem_of_getElem? (i := 617) rfl)) rfl), in_H, by decide +kernel⟩
set_option maxRecDepth 20000 in
theorem im_H_span : Cond.instanceMethod y_H_span ∈ ab_tbl := (ab_mem (List.mem_append_right _ (List.mem_of_getElem? (i := 615) rfl)) rfl)
set_option maxRecDepth 20000 in
theorem se_H_span : Cond.selects "HiddenRows" y_H_span y_H_span ∈ ab_tbl := (ab_mem (List.mem_append_right _ (List.mem_of_getElem? (i := 616) rfl)) rfl)
set_option maxRecDepth 20000 in
theorem fb_Tt_sumWith : ab_B y_Tt_sumWith b_Tt_sumWith 8 (some .long) 4 := ⟨(ab_mem (List.mem_append_right _ (List.mem_of_getElem? (i := 621) rfl)) rfl), in_Tt, by decide +kernel⟩
set_option maxRecDepth 20000 in
theorem im_Tt_sumWith : Cond.instanceMethod y_Tt_sumWith ∈ ab_tbl := (ab_mem (List.mem_append_right _ (List.mem_of_getElem? (i := 619) rfl)) rfl)
set_option maxRecDepth 20000 in
theorem se_Tt_sumWith : Cond.selects "HiddenRows$TreeTables" y_Tt_sumWith y_Tt_sumWith ∈ ab_tbl := (ab_mem (List.mem_append_right _ (List.mem_of_getElem? (i := 620) rfl)) rfl)
set_option maxRecDepth 20000 in
theorem fb_Tt_addAround : ab_B y_Tt_addAround b_Tt_addAround 6 none 4 := ⟨(ab_mem (List.mem_append_right _ (List.mem_of_getElem? (i := 625) rfl)) rfl), in_Tt, by decide +kernel⟩
set_option maxRecDepth 20000 in
theorem im_Tt_addAround : Cond.instanceMethod y_Tt_addAround ∈ ab_tbl := (ab_mem (List.mem_append_right _ (List.mem_of_getElem? (i := 624) rfl)) rfl)
theorem se_Tt_addAround : Cond.selects "HiddenRows$TreeTables" y_Tt_addAround y_Tt_addAround ∈ ab_tbl := (ab_mem (List.mem_append_left _ (List.mem_of_getElem? (i := 26) rfl)) rfl)
set_option maxRecDepth 20000 in
theorem fb_Tt_addProducts : ab_B y_Tt_addProducts b_Tt_addProducts 11 none 5 := ⟨(ab_mem (List.mem_append_right _ (List.mem_of_getElem? (i := 629) rfl)) rfl), in_Tt, by decide +kernel⟩
set_option maxRecDepth 20000 in
theorem im_Tt_addProducts : Cond.instanceMethod y_Tt_addProducts ∈ ab_tbl := (ab_mem (List.mem_append_right _ (List.mem_of_getElem? (i := 628) rfl)) rfl)
theorem se_Tt_addProducts : Cond.selects "HiddenRows$TreeTables" y_Tt_addProducts y_Tt_addProducts ∈ ab_tbl := (ab_mem (List.mem_append_left _ (List.mem_of_getElem? (i := 27) rfl)) rfl)
set_option maxRecDepth 20000 in
theorem fb_Mo_init : ab_B y_Mo_init b_Mo_init 1 none 0 := ⟨(ab_mem (List.mem_append_right _ (List.mem_of_getElem? (i := 634) rfl)) rfl), in_Mo, by decide +kernel⟩
set_option maxRecDepth 20000 in
theorem im_Mo_init : Cond.instanceMethod y_Mo_init ∈ ab_tbl := (ab_mem (List.mem_append_right _ (List.mem_of_getElem? (i := 633) rfl)) rfl)
set_option maxRecDepth 20000 in
theorem fb_Mo_state : ab_B y_Mo_state b_Mo_state 2 (some .int) 0 := ⟨(ab_mem (List.mem_append_right _ (List.mem_of_getElem? (i := 721) rfl)) rfl), in_Mo, by decide +kernel⟩
set_option maxRecDepth 20000 in
theorem im_Mo_state : Cond.instanceMethod y_Mo_state ∈ ab_tbl := (ab_mem (List.mem_append_right _ (List.mem_of_getElem? (i := 719) rfl)) rfl)
set_option maxRecDepth 20000 in
theorem se_Mo_state : Cond.selects "HiddenRowsModel" y_Mo_state y_Mo_state ∈ ab_tbl := (ab_mem (List.mem_append_right _ (List.mem_of_getElem? (i := 720) rfl)) rfl)
set_option maxRecDepth 20000 in
theorem fb_Mo_change : ab_B y_Mo_change b_Mo_change 1 none 0 := ⟨(ab_mem (List.mem_append_right _ (List.mem_of_getElem? (i := 725) rfl)) rfl), in_Mo, by decide +kernel⟩
set_option maxRecDepth 20000 in
theorem im_Mo_change : Cond.instanceMethod y_Mo_change ∈ ab_tbl := (ab_mem (List.mem_append_right _ (List.mem_of_getElem? (i := 724) rfl)) rfl)
theorem se_Mo_change : Cond.selects "HiddenRowsModel" y_Mo_change y_Mo_change ∈ ab_tbl := (ab_mem (List.mem_append_left _ (List.mem_of_getElem? (i := 28) rfl)) rfl)
set_option maxRecDepth 20000 in
theorem fb_Mo_weight : ab_B y_Mo_weight b_Mo_weight 5 (some .int) 3 := ⟨(ab_mem (List.mem_append_right _ (List.mem_of_getElem? (i := 729) rfl)) rfl), in_Mo, by decide +kernel⟩
set_option maxRecDepth 20000 in
theorem im_Mo_weight : Cond.instanceMethod y_Mo_weight ∈ ab_tbl := (ab_mem (List.mem_append_right _ (List.mem_of_getElem? (i := 727) rfl)) rfl)
set_option maxRecDepth 20000 in
theorem se_Mo_weight : Cond.selects "HiddenRowsModel" y_Mo_weight y_Mo_weight ∈ ab_tbl := (ab_mem (List.mem_append_right _ (List.mem_of_getElem? (i := 728) rfl)) rfl)
set_option maxRecDepth 20000 in
theorem fb_Mo_isState : ab_B y_Mo_isState b_Mo_isState 2 (some .boolean) 1 := ⟨(ab_mem (List.mem_append_right _ (List.mem_of_getElem? (i := 733) rfl)) rfl), in_Mo, by decide +kernel⟩
set_option maxRecDepth 20000 in
theorem im_Mo_isState : Cond.instanceMethod y_Mo_isState ∈ ab_tbl := (ab_mem (List.mem_append_right _ (List.mem_of_getElem? (i := 732) rfl)) rfl)
theorem se_Mo_isState : Cond.selects "HiddenRowsModel" y_Mo_isState y_Mo_isState ∈ ab_tbl := (ab_mem (List.mem_append_left _ (List.mem_of_getElem? (i := 29) rfl)) rfl)
set_option maxRecDepth 20000 in
theorem fb_Mo_isWeight : ab_B y_Mo_isWeight b_Mo_isWeight 1 (some .boolean) 1 := ⟨(ab_mem (List.mem_append_right _ (List.mem_of_getElem? (i := 736) rfl)) rfl), in_Mo, by decide +kernel⟩
set_option maxRecDepth 20000 in
theorem sm_Mo_isWeight : Cond.static y_Mo_isWeight ∈ ab_tbl := (ab_mem (List.mem_append_right _ (List.mem_of_getElem? (i := 735) rfl)) rfl)
set_option maxRecDepth 20000 in
theorem fb_Mo_move : ab_B y_Mo_move b_Mo_move 5 (some .int) 3 := ⟨(ab_mem (List.mem_append_right _ (List.mem_of_getElem? (i := 740) rfl)) rfl), in_Mo, by decide +kernel⟩
set_option maxRecDepth 20000 in
theorem im_Mo_move : Cond.instanceMethod y_Mo_move ∈ ab_tbl := (ab_mem (List.mem_append_right _ (List.mem_of_getElem? (i := 738) rfl)) rfl)
set_option maxRecDepth 20000 in
theorem se_Mo_move : Cond.selects "HiddenRowsModel" y_Mo_move y_Mo_move ∈ ab_tbl := (ab_mem (List.mem_append_right _ (List.mem_of_getElem? (i := 739) rfl)) rfl)
set_option maxRecDepth 20000 in
theorem fb_Mo_kind : ab_B y_Mo_kind b_Mo_kind 1 (some .int) 0 := ⟨(ab_mem (List.mem_append_right _ (List.mem_of_getElem? (i := 744) rfl)) rfl), in_Mo, by decide +kernel⟩
set_option maxRecDepth 20000 in
theorem im_Mo_kind : Cond.instanceMethod y_Mo_kind ∈ ab_tbl := (ab_mem (List.mem_append_right _ (List.mem_of_getElem? (i := 742) rfl)) rfl)
set_option maxRecDepth 20000 in
theorem se_Mo_kind : Cond.selects "HiddenRowsModel" y_Mo_kind y_Mo_kind ∈ ab_tbl := (ab_mem (List.mem_append_right _ (List.mem_of_getElem? (i := 743) rfl)) rfl)
set_option maxRecDepth 20000 in
theorem fb_Mo_rule : ab_B y_Mo_rule b_Mo_rule 6 (some .int) 4 := ⟨(ab_mem (List.mem_append_right _ (List.mem_of_getElem? (i := 748) rfl)) rfl), in_Mo, by decide +kernel⟩
set_option maxRecDepth 20000 in
theorem im_Mo_rule : Cond.instanceMethod y_Mo_rule ∈ ab_tbl := (ab_mem (List.mem_append_right _ (List.mem_of_getElem? (i := 746) rfl)) rfl)
set_option maxRecDepth 20000 in
theorem se_Mo_rule : Cond.selects "HiddenRowsModel" y_Mo_rule y_Mo_rule ∈ ab_tbl := (ab_mem (List.mem_append_right _ (List.mem_of_getElem? (i := 747) rfl)) rfl)
set_option maxRecDepth 20000 in
theorem fb_Mo_isKind : ab_B y_Mo_isKind b_Mo_isKind 2 (some .boolean) 1 := ⟨(ab_mem (List.mem_append_right _ (List.mem_of_getElem? (i := 752) rfl)) rfl), in_Mo, by decide +kernel⟩
set_option maxRecDepth 20000 in
theorem im_Mo_isKind : Cond.instanceMethod y_Mo_isKind ∈ ab_tbl := (ab_mem (List.mem_append_right _ (List.mem_of_getElem? (i := 751) rfl)) rfl)
theorem se_Mo_isKind : Cond.selects "HiddenRowsModel" y_Mo_isKind y_Mo_isKind ∈ ab_tbl := (ab_mem (List.mem_append_left _ (List.mem_of_getElem? (i := 30) rfl)) rfl)
set_option maxRecDepth 20000 in
theorem fb_Mo_leaf : ab_B y_Mo_leaf b_Mo_leaf 5 (some .int) 3 := ⟨(ab_mem (List.mem_append_right _ (List.mem_of_getElem? (i := 756) rfl)) rfl), in_Mo, by decide +kernel⟩
set_option maxRecDepth 20000 in
theorem im_Mo_leaf : Cond.instanceMethod y_Mo_leaf ∈ ab_tbl := (ab_mem (List.mem_append_right _ (List.mem_of_getElem? (i := 754) rfl)) rfl)
set_option maxRecDepth 20000 in
theorem se_Mo_leaf : Cond.selects "HiddenRowsModel" y_Mo_leaf y_Mo_leaf ∈ ab_tbl := (ab_mem (List.mem_append_right _ (List.mem_of_getElem? (i := 755) rfl)) rfl)
set_option maxRecDepth 20000 in
theorem fb_Mo_sign : ab_B y_Mo_sign b_Mo_sign 2 (some .int) 1 := ⟨(ab_mem (List.mem_append_right _ (List.mem_of_getElem? (i := 760) rfl)) rfl), in_Mo, by decide +kernel⟩
set_option maxRecDepth 20000 in
theorem im_Mo_sign : Cond.instanceMethod y_Mo_sign ∈ ab_tbl := (ab_mem (List.mem_append_right _ (List.mem_of_getElem? (i := 758) rfl)) rfl)
set_option maxRecDepth 20000 in
theorem se_Mo_sign : Cond.selects "HiddenRowsModel" y_Mo_sign y_Mo_sign ∈ ab_tbl := (ab_mem (List.mem_append_right _ (List.mem_of_getElem? (i := 759) rfl)) rfl)
set_option maxRecDepth 20000 in
theorem fb_Mo_clear : ab_B y_Mo_clear b_Mo_clear 2 (some .int) 0 := ⟨(ab_mem (List.mem_append_right _ (List.mem_of_getElem? (i := 764) rfl)) rfl), in_Mo, by decide +kernel⟩
set_option maxRecDepth 20000 in
theorem im_Mo_clear : Cond.instanceMethod y_Mo_clear ∈ ab_tbl := (ab_mem (List.mem_append_right _ (List.mem_of_getElem? (i := 762) rfl)) rfl)
set_option maxRecDepth 20000 in
theorem se_Mo_clear : Cond.selects "HiddenRowsModel" y_Mo_clear y_Mo_clear ∈ ab_tbl := (ab_mem (List.mem_append_right _ (List.mem_of_getElem? (i := 763) rfl)) rfl)
set_option maxRecDepth 20000 in
theorem fb_Mo_hold : ab_B y_Mo_hold b_Mo_hold 4 (some .int) 2 := ⟨(ab_mem (List.mem_append_right _ (List.mem_of_getElem? (i := 768) rfl)) rfl), in_Mo, by decide +kernel⟩
set_option maxRecDepth 20000 in
theorem im_Mo_hold : Cond.instanceMethod y_Mo_hold ∈ ab_tbl := (ab_mem (List.mem_append_right _ (List.mem_of_getElem? (i := 766) rfl)) rfl)
set_option maxRecDepth 20000 in
theorem se_Mo_hold : Cond.selects "HiddenRowsModel" y_Mo_hold y_Mo_hold ∈ ab_tbl := (ab_mem (List.mem_append_right _ (List.mem_of_getElem? (i := 767) rfl)) rfl)
set_option maxRecDepth 20000 in
theorem fb_Mo_isPlace : ab_B y_Mo_isPlace b_Mo_isPlace 2 (some .boolean) 1 := ⟨(ab_mem (List.mem_append_right _ (List.mem_of_getElem? (i := 772) rfl)) rfl), in_Mo, by decide +kernel⟩
set_option maxRecDepth 20000 in
theorem im_Mo_isPlace : Cond.instanceMethod y_Mo_isPlace ∈ ab_tbl := (ab_mem (List.mem_append_right _ (List.mem_of_getElem? (i := 771) rfl)) rfl)
theorem se_Mo_isPlace : Cond.selects "HiddenRowsModel" y_Mo_isPlace y_Mo_isPlace ∈ ab_tbl := (ab_mem (List.mem_append_left _ (List.mem_of_getElem? (i := 31) rfl)) rfl)
set_option maxRecDepth 20000 in
theorem fb_Mo_total : ab_B y_Mo_total b_Mo_total 1 (some .long) 0 := ⟨(ab_mem (List.mem_append_right _ (List.mem_of_getElem? (i := 776) rfl)) rfl), in_Mo, by decide +kernel⟩
set_option maxRecDepth 20000 in
theorem im_Mo_total : Cond.instanceMethod y_Mo_total ∈ ab_tbl := (ab_mem (List.mem_append_right _ (List.mem_of_getElem? (i := 774) rfl)) rfl)
set_option maxRecDepth 20000 in
theorem se_Mo_total : Cond.selects "HiddenRowsModel" y_Mo_total y_Mo_total ∈ ab_tbl := (ab_mem (List.mem_append_right _ (List.mem_of_getElem? (i := 775) rfl)) rfl)
set_option maxRecDepth 20000 in
theorem fb_Mo_know : ab_B y_Mo_know b_Mo_know 4 none 0 := ⟨(ab_mem (List.mem_append_right _ (List.mem_of_getElem? (i := 780) rfl)) rfl), in_Mo, by decide +kernel⟩
set_option maxRecDepth 20000 in
theorem im_Mo_know : Cond.instanceMethod y_Mo_know ∈ ab_tbl := (ab_mem (List.mem_append_right _ (List.mem_of_getElem? (i := 779) rfl)) rfl)
theorem se_Mo_know : Cond.selects "HiddenRowsModel" y_Mo_know y_Mo_know ∈ ab_tbl := (ab_mem (List.mem_append_left _ (List.mem_of_getElem? (i := 32) rfl)) rfl)
set_option maxRecDepth 20000 in
theorem fb_Mo_next : ab_B y_Mo_next b_Mo_next 4 (some .boolean) 1 := ⟨(ab_mem (List.mem_append_right _ (List.mem_of_getElem? (i := 784) rfl)) rfl), in_Mo, by decide +kernel⟩
set_option maxRecDepth 20000 in
theorem im_Mo_next : Cond.instanceMethod y_Mo_next ∈ ab_tbl := (ab_mem (List.mem_append_right _ (List.mem_of_getElem? (i := 783) rfl)) rfl)
theorem se_Mo_next : Cond.selects "HiddenRowsModel" y_Mo_next y_Mo_next ∈ ab_tbl := (ab_mem (List.mem_append_left _ (List.mem_of_getElem? (i := 33) rfl)) rfl)
set_option maxRecDepth 20000 in
theorem fb_Mo_canBe : ab_B y_Mo_canBe b_Mo_canBe 3 (some .boolean) 2 := ⟨(ab_mem (List.mem_append_right _ (List.mem_of_getElem? (i := 788) rfl)) rfl), in_Mo, by decide +kernel⟩
set_option maxRecDepth 20000 in
theorem im_Mo_canBe : Cond.instanceMethod y_Mo_canBe ∈ ab_tbl := (ab_mem (List.mem_append_right _ (List.mem_of_getElem? (i := 787) rfl)) rfl)
theorem se_Mo_canBe : Cond.selects "HiddenRowsModel" y_Mo_canBe y_Mo_canBe ∈ ab_tbl := (ab_mem (List.mem_append_left _ (List.mem_of_getElem? (i := 34) rfl)) rfl)
set_option maxRecDepth 20000 in
theorem fb_Mo_stay : ab_B y_Mo_stay b_Mo_stay 4 (some .int) 1 := ⟨(ab_mem (List.mem_append_right _ (List.mem_of_getElem? (i := 792) rfl)) rfl), in_Mo, by decide +kernel⟩
set_option maxRecDepth 20000 in
theorem im_Mo_stay : Cond.instanceMethod y_Mo_stay ∈ ab_tbl := (ab_mem (List.mem_append_right _ (List.mem_of_getElem? (i := 791) rfl)) rfl)
theorem se_Mo_stay : Cond.selects "HiddenRowsModel" y_Mo_stay y_Mo_stay ∈ ab_tbl := (ab_mem (List.mem_append_left _ (List.mem_of_getElem? (i := 35) rfl)) rfl)
set_option maxRecDepth 20000 in
theorem fb_Mo_weightOf : ab_B y_Mo_weightOf b_Mo_weightOf 6 (some .long) 0 := ⟨(ab_mem (List.mem_append_right _ (List.mem_of_getElem? (i := 796) rfl)) rfl), in_Mo, by decide +kernel⟩
set_option maxRecDepth 20000 in
theorem im_Mo_weightOf : Cond.instanceMethod y_Mo_weightOf ∈ ab_tbl := (ab_mem (List.mem_append_right _ (List.mem_of_getElem? (i := 795) rfl)) rfl)
theorem se_Mo_weightOf : Cond.selects "HiddenRowsModel" y_Mo_weightOf y_Mo_weightOf ∈ ab_tbl := (ab_mem (List.mem_append_left _ (List.mem_of_getElem? (i := 36) rfl)) rfl)
set_option maxRecDepth 20000 in
theorem fb_Mo_show : ab_B y_Mo_show b_Mo_show 5 (some .int) 2 := ⟨(ab_mem (List.mem_append_right _ (List.mem_of_getElem? (i := 800) rfl)) rfl), in_Mo, by decide +kernel⟩
set_option maxRecDepth 20000 in
theorem im_Mo_show : Cond.instanceMethod y_Mo_show ∈ ab_tbl := (ab_mem (List.mem_append_right _ (List.mem_of_getElem? (i := 799) rfl)) rfl)
theorem se_Mo_show : Cond.selects "HiddenRowsModel" y_Mo_show y_Mo_show ∈ ab_tbl := (ab_mem (List.mem_append_left _ (List.mem_of_getElem? (i := 37) rfl)) rfl)
set_option maxRecDepth 20000 in
theorem fb_Mo_add : ab_B y_Mo_add b_Mo_add 5 none 1 := ⟨(ab_mem (List.mem_append_right _ (List.mem_of_getElem? (i := 804) rfl)) rfl), in_Mo, by decide +kernel⟩
set_option maxRecDepth 20000 in
theorem im_Mo_add : Cond.instanceMethod y_Mo_add ∈ ab_tbl := (ab_mem (List.mem_append_right _ (List.mem_of_getElem? (i := 803) rfl)) rfl)
theorem se_Mo_add : Cond.selects "HiddenRowsModel" y_Mo_add y_Mo_add ∈ ab_tbl := (ab_mem (List.mem_append_left _ (List.mem_of_getElem? (i := 38) rfl)) rfl)
set_option maxRecDepth 20000 in
theorem fb_Mo_keep : ab_B y_Mo_keep b_Mo_keep 5 none 1 := ⟨(ab_mem (List.mem_append_right _ (List.mem_of_getElem? (i := 808) rfl)) rfl), in_Mo, by decide +kernel⟩
set_option maxRecDepth 20000 in
theorem im_Mo_keep : Cond.instanceMethod y_Mo_keep ∈ ab_tbl := (ab_mem (List.mem_append_right _ (List.mem_of_getElem? (i := 807) rfl)) rfl)
theorem se_Mo_keep : Cond.selects "HiddenRowsModel" y_Mo_keep y_Mo_keep ∈ ab_tbl := (ab_mem (List.mem_append_left _ (List.mem_of_getElem? (i := 39) rfl)) rfl)
set_option maxRecDepth 20000 in
theorem fb_Mo_ways : ab_B y_Mo_ways b_Mo_ways 1 (some .int) 0 := ⟨(ab_mem (List.mem_append_right _ (List.mem_of_getElem? (i := 812) rfl)) rfl), in_Mo, by decide +kernel⟩
set_option maxRecDepth 20000 in
theorem im_Mo_ways : Cond.instanceMethod y_Mo_ways ∈ ab_tbl := (ab_mem (List.mem_append_right _ (List.mem_of_getElem? (i := 810) rfl)) rfl)
set_option maxRecDepth 20000 in
theorem se_Mo_ways : Cond.selects "HiddenRowsModel" y_Mo_ways y_Mo_ways ∈ ab_tbl := (ab_mem (List.mem_append_right _ (List.mem_of_getElem? (i := 811) rfl)) rfl)
set_option maxRecDepth 20000 in
theorem fb_Mo_share : ab_B y_Mo_share b_Mo_share 4 (some .long) 3 := ⟨(ab_mem (List.mem_append_right _ (List.mem_of_getElem? (i := 816) rfl)) rfl), in_Mo, by decide +kernel⟩
set_option maxRecDepth 20000 in
theorem im_Mo_share : Cond.instanceMethod y_Mo_share ∈ ab_tbl := (ab_mem (List.mem_append_right _ (List.mem_of_getElem? (i := 814) rfl)) rfl)
set_option maxRecDepth 20000 in
theorem se_Mo_share : Cond.selects "HiddenRowsModel" y_Mo_share y_Mo_share ∈ ab_tbl := (ab_mem (List.mem_append_right _ (List.mem_of_getElem? (i := 815) rfl)) rfl)
set_option maxRecDepth 20000 in
theorem fb_Mo_lowest : ab_B y_Mo_lowest b_Mo_lowest 7 (some .long) 3 := ⟨(ab_mem (List.mem_append_right _ (List.mem_of_getElem? (i := 822) rfl)) rfl), in_Mo, by decide +kernel⟩
set_option maxRecDepth 20000 in
theorem sm_Mo_lowest : Cond.static y_Mo_lowest ∈ ab_tbl := (ab_mem (List.mem_append_right _ (List.mem_of_getElem? (i := 821) rfl)) rfl)
set_option maxRecDepth 20000 in
theorem fb_Mo_common : ab_B y_Mo_common b_Mo_common 10 (some .long) 2 := ⟨(ab_mem (List.mem_append_right _ (List.mem_of_getElem? (i := 825) rfl)) rfl), in_Mo, by decide +kernel⟩
set_option maxRecDepth 20000 in
theorem sm_Mo_common : Cond.static y_Mo_common ∈ ab_tbl := (ab_mem (List.mem_append_right _ (List.mem_of_getElem? (i := 824) rfl)) rfl)
set_option maxRecDepth 20000 in
theorem fb_Mo_begin : ab_B y_Mo_begin b_Mo_begin 4 (some .long) 3 := ⟨(ab_mem (List.mem_append_right _ (List.mem_of_getElem? (i := 829) rfl)) rfl), in_Mo, by decide +kernel⟩
set_option maxRecDepth 20000 in
theorem im_Mo_begin : Cond.instanceMethod y_Mo_begin ∈ ab_tbl := (ab_mem (List.mem_append_right _ (List.mem_of_getElem? (i := 827) rfl)) rfl)
set_option maxRecDepth 20000 in
theorem se_Mo_begin : Cond.selects "HiddenRowsModel" y_Mo_begin y_Mo_begin ∈ ab_tbl := (ab_mem (List.mem_append_right _ (List.mem_of_getElem? (i := 828) rfl)) rfl)
set_option maxRecDepth 20000 in
theorem fb_Mo_pair : ab_B y_Mo_pair b_Mo_pair 5 (some .long) 4 := ⟨(ab_mem (List.mem_append_right _ (List.mem_of_getElem? (i := 833) rfl)) rfl), in_Mo, by decide +kernel⟩
set_option maxRecDepth 20000 in
theorem im_Mo_pair : Cond.instanceMethod y_Mo_pair ∈ ab_tbl := (ab_mem (List.mem_append_right _ (List.mem_of_getElem? (i := 831) rfl)) rfl)
set_option maxRecDepth 20000 in
theorem se_Mo_pair : Cond.selects "HiddenRowsModel" y_Mo_pair y_Mo_pair ∈ ab_tbl := (ab_mem (List.mem_append_right _ (List.mem_of_getElem? (i := 832) rfl)) rfl)
set_option maxRecDepth 20000 in
theorem fb_Mo_top : ab_B y_Mo_top b_Mo_top 4 (some .int) 1 := ⟨(ab_mem (List.mem_append_right _ (List.mem_of_getElem? (i := 837) rfl)) rfl), in_Mo, by decide +kernel⟩
set_option maxRecDepth 20000 in
theorem im_Mo_top : Cond.instanceMethod y_Mo_top ∈ ab_tbl := (ab_mem (List.mem_append_right _ (List.mem_of_getElem? (i := 835) rfl)) rfl)
set_option maxRecDepth 20000 in
theorem se_Mo_top : Cond.selects "HiddenRowsModel" y_Mo_top y_Mo_top ∈ ab_tbl := (ab_mem (List.mem_append_right _ (List.mem_of_getElem? (i := 836) rfl)) rfl)
set_option maxRecDepth 20000 in
theorem fb_Mo_best : ab_B y_Mo_best b_Mo_best 2 (some .long) 1 := ⟨(ab_mem (List.mem_append_right _ (List.mem_of_getElem? (i := 841) rfl)) rfl), in_Mo, by decide +kernel⟩
set_option maxRecDepth 20000 in
theorem im_Mo_best : Cond.instanceMethod y_Mo_best ∈ ab_tbl := (ab_mem (List.mem_append_right _ (List.mem_of_getElem? (i := 839) rfl)) rfl)
set_option maxRecDepth 20000 in
theorem se_Mo_best : Cond.selects "HiddenRowsModel" y_Mo_best y_Mo_best ∈ ab_tbl := (ab_mem (List.mem_append_right _ (List.mem_of_getElem? (i := 840) rfl)) rfl)
set_option maxRecDepth 20000 in
theorem fb_Mo_bestAt : ab_B y_Mo_bestAt b_Mo_bestAt 3 (some .int) 2 := ⟨(ab_mem (List.mem_append_right _ (List.mem_of_getElem? (i := 845) rfl)) rfl), in_Mo, by decide +kernel⟩
set_option maxRecDepth 20000 in
theorem im_Mo_bestAt : Cond.instanceMethod y_Mo_bestAt ∈ ab_tbl := (ab_mem (List.mem_append_right _ (List.mem_of_getElem? (i := 843) rfl)) rfl)
set_option maxRecDepth 20000 in
theorem se_Mo_bestAt : Cond.selects "HiddenRowsModel" y_Mo_bestAt y_Mo_bestAt ∈ ab_tbl := (ab_mem (List.mem_append_right _ (List.mem_of_getElem? (i := 844) rfl)) rfl)
set_option maxRecDepth 20000 in
theorem fb_Mo_drawn : ab_B y_Mo_drawn b_Mo_drawn 11 (some .long) 1 := ⟨(ab_mem (List.mem_append_right _ (List.mem_of_getElem? (i := 849) rfl)) rfl), in_Mo, by decide +kernel⟩
set_option maxRecDepth 20000 in
theorem im_Mo_drawn : Cond.instanceMethod y_Mo_drawn ∈ ab_tbl := (ab_mem (List.mem_append_right _ (List.mem_of_getElem? (i := 847) rfl)) rfl)
set_option maxRecDepth 20000 in
theorem se_Mo_drawn : Cond.selects "HiddenRowsModel" y_Mo_drawn y_Mo_drawn ∈ ab_tbl := (ab_mem (List.mem_append_right _ (List.mem_of_getElem? (i := 848) rfl)) rfl)
set_option maxRecDepth 20000 in
theorem fb_Mo_drawnAt : ab_B y_Mo_drawnAt b_Mo_drawnAt 2 (some .int) 1 := ⟨(ab_mem (List.mem_append_right _ (List.mem_of_getElem? (i := 856) rfl)) rfl), in_Mo, by decide +kernel⟩
set_option maxRecDepth 20000 in
theorem im_Mo_drawnAt : Cond.instanceMethod y_Mo_drawnAt ∈ ab_tbl := (ab_mem (List.mem_append_right _ (List.mem_of_getElem? (i := 854) rfl)) rfl)
set_option maxRecDepth 20000 in
theorem se_Mo_drawnAt : Cond.selects "HiddenRowsModel" y_Mo_drawnAt y_Mo_drawnAt ∈ ab_tbl := (ab_mem (List.mem_append_right _ (List.mem_of_getElem? (i := 855) rfl)) rfl)
set_option maxRecDepth 20000 in
theorem fb_Mo_trees : ab_B y_Mo_trees b_Mo_trees 2 (some .long) 1 := ⟨(ab_mem (List.mem_append_right _ (List.mem_of_getElem? (i := 860) rfl)) rfl), in_Mo, by decide +kernel⟩
set_option maxRecDepth 20000 in
theorem im_Mo_trees : Cond.instanceMethod y_Mo_trees ∈ ab_tbl := (ab_mem (List.mem_append_right _ (List.mem_of_getElem? (i := 858) rfl)) rfl)
set_option maxRecDepth 20000 in
theorem se_Mo_trees : Cond.selects "HiddenRowsModel" y_Mo_trees y_Mo_trees ∈ ab_tbl := (ab_mem (List.mem_append_right _ (List.mem_of_getElem? (i := 859) rfl)) rfl)
set_option maxRecDepth 20000 in
theorem fb_Mo_findTrees : ab_B y_Mo_findTrees b_Mo_findTrees 8 none 3 := ⟨(ab_mem (List.mem_append_right _ (List.mem_of_getElem? (i := 864) rfl)) rfl), in_Mo, by decide +kernel⟩
set_option maxRecDepth 20000 in
theorem im_Mo_findTrees : Cond.instanceMethod y_Mo_findTrees ∈ ab_tbl := (ab_mem (List.mem_append_right _ (List.mem_of_getElem? (i := 863) rfl)) rfl)
theorem se_Mo_findTrees : Cond.selects "HiddenRowsModel" y_Mo_findTrees y_Mo_findTrees ∈ ab_tbl := (ab_mem (List.mem_append_left _ (List.mem_of_getElem? (i := 40) rfl)) rfl)
set_option maxRecDepth 20000 in
theorem fb_Mo_findSpan : ab_B y_Mo_findSpan b_Mo_findSpan 14 none 3 := ⟨(ab_mem (List.mem_append_right _ (List.mem_of_getElem? (i := 868) rfl)) rfl), in_Mo, by decide +kernel⟩
set_option maxRecDepth 20000 in
theorem im_Mo_findSpan : Cond.instanceMethod y_Mo_findSpan ∈ ab_tbl := (ab_mem (List.mem_append_right _ (List.mem_of_getElem? (i := 867) rfl)) rfl)
theorem se_Mo_findSpan : Cond.selects "HiddenRowsModel" y_Mo_findSpan y_Mo_findSpan ∈ ab_tbl := (ab_mem (List.mem_append_left _ (List.mem_of_getElem? (i := 41) rfl)) rfl)
set_option maxRecDepth 20000 in
theorem fb_Mo_at : ab_B y_Mo_at b_Mo_at 3 (some .int) 3 := ⟨(ab_mem (List.mem_append_right _ (List.mem_of_getElem? (i := 871) rfl)) rfl), in_Mo, by decide +kernel⟩
set_option maxRecDepth 20000 in
theorem sm_Mo_at : Cond.static y_Mo_at ∈ ab_tbl := (ab_mem (List.mem_append_right _ (List.mem_of_getElem? (i := 870) rfl)) rfl)
set_option maxRecDepth 20000 in
theorem fb_Mo_leafOf : ab_B y_Mo_leafOf b_Mo_leafOf 5 (some .long) 2 := ⟨(ab_mem (List.mem_append_right _ (List.mem_of_getElem? (i := 875) rfl)) rfl), in_Mo, by decide +kernel⟩
set_option maxRecDepth 20000 in
theorem im_Mo_leafOf : Cond.instanceMethod y_Mo_leafOf ∈ ab_tbl := (ab_mem (List.mem_append_right _ (List.mem_of_getElem? (i := 874) rfl)) rfl)
theorem se_Mo_leafOf : Cond.selects "HiddenRowsModel" y_Mo_leafOf y_Mo_leafOf ∈ ab_tbl := (ab_mem (List.mem_append_left _ (List.mem_of_getElem? (i := 42) rfl)) rfl)
set_option maxRecDepth 20000 in
theorem fb_Mo_whole : ab_B y_Mo_whole b_Mo_whole 2 (some .int) 1 := ⟨(ab_mem (List.mem_append_right _ (List.mem_of_getElem? (i := 879) rfl)) rfl), in_Mo, by decide +kernel⟩
set_option maxRecDepth 20000 in
theorem im_Mo_whole : Cond.instanceMethod y_Mo_whole ∈ ab_tbl := (ab_mem (List.mem_append_right _ (List.mem_of_getElem? (i := 878) rfl)) rfl)
theorem se_Mo_whole : Cond.selects "HiddenRowsModel" y_Mo_whole y_Mo_whole ∈ ab_tbl := (ab_mem (List.mem_append_left _ (List.mem_of_getElem? (i := 43) rfl)) rfl)
set_option maxRecDepth 20000 in
theorem fb_Mo_treeCount : ab_B y_Mo_treeCount b_Mo_treeCount 2 (some .long) 1 := ⟨(ab_mem (List.mem_append_right _ (List.mem_of_getElem? (i := 883) rfl)) rfl), in_Mo, by decide +kernel⟩
set_option maxRecDepth 20000 in
theorem im_Mo_treeCount : Cond.instanceMethod y_Mo_treeCount ∈ ab_tbl := (ab_mem (List.mem_append_right _ (List.mem_of_getElem? (i := 881) rfl)) rfl)
set_option maxRecDepth 20000 in
theorem se_Mo_treeCount : Cond.selects "HiddenRowsModel" y_Mo_treeCount y_Mo_treeCount ∈ ab_tbl := (ab_mem (List.mem_append_right _ (List.mem_of_getElem? (i := 882) rfl)) rfl)
set_option maxRecDepth 20000 in
theorem fb_Mo_treeBest : ab_B y_Mo_treeBest b_Mo_treeBest 4 (some .long) 1 := ⟨(ab_mem (List.mem_append_right _ (List.mem_of_getElem? (i := 887) rfl)) rfl), in_Mo, by decide +kernel⟩
set_option maxRecDepth 20000 in
theorem im_Mo_treeBest : Cond.instanceMethod y_Mo_treeBest ∈ ab_tbl := (ab_mem (List.mem_append_right _ (List.mem_of_getElem? (i := 885) rfl)) rfl)
set_option maxRecDepth 20000 in
theorem se_Mo_treeBest : Cond.selects "HiddenRowsModel" y_Mo_treeBest y_Mo_treeBest ∈ ab_tbl := (ab_mem (List.mem_append_right _ (List.mem_of_getElem? (i := 886) rfl)) rfl)
set_option maxRecDepth 20000 in
theorem fb_Mo_treeAt : ab_B y_Mo_treeAt b_Mo_treeAt 11 (some .int) 2 := ⟨(ab_mem (List.mem_append_right _ (List.mem_of_getElem? (i := 892) rfl)) rfl), in_Mo, by decide +kernel⟩
set_option maxRecDepth 20000 in
theorem im_Mo_treeAt : Cond.instanceMethod y_Mo_treeAt ∈ ab_tbl := (ab_mem (List.mem_append_right _ (List.mem_of_getElem? (i := 890) rfl)) rfl)
set_option maxRecDepth 20000 in
theorem se_Mo_treeAt : Cond.selects "HiddenRowsModel" y_Mo_treeAt y_Mo_treeAt ∈ ab_tbl := (ab_mem (List.mem_append_right _ (List.mem_of_getElem? (i := 891) rfl)) rfl)
set_option maxRecDepth 20000 in
theorem fb_Mo_leastOf : ab_B y_Mo_leastOf b_Mo_leastOf 9 (some .int) 3 := ⟨(ab_mem (List.mem_append_right _ (List.mem_of_getElem? (i := 896) rfl)) rfl), in_Mo, by decide +kernel⟩
set_option maxRecDepth 20000 in
theorem im_Mo_leastOf : Cond.instanceMethod y_Mo_leastOf ∈ ab_tbl := (ab_mem (List.mem_append_right _ (List.mem_of_getElem? (i := 895) rfl)) rfl)
theorem se_Mo_leastOf : Cond.selects "HiddenRowsModel" y_Mo_leastOf y_Mo_leastOf ∈ ab_tbl := (ab_mem (List.mem_append_left _ (List.mem_of_getElem? (i := 44) rfl)) rfl)
set_option maxRecDepth 20000 in
theorem fb_Mo_span : ab_B y_Mo_span b_Mo_span 10 (some .long) 5 := ⟨(ab_mem (List.mem_append_right _ (List.mem_of_getElem? (i := 900) rfl)) rfl), in_Mo, by decide +kernel⟩
set_option maxRecDepth 20000 in
theorem im_Mo_span : Cond.instanceMethod y_Mo_span ∈ ab_tbl := (ab_mem (List.mem_append_right _ (List.mem_of_getElem? (i := 898) rfl)) rfl)
set_option maxRecDepth 20000 in
theorem se_Mo_span : Cond.selects "HiddenRowsModel" y_Mo_span y_Mo_span ∈ ab_tbl := (ab_mem (List.mem_append_right _ (List.mem_of_getElem? (i := 899) rfl)) rfl)
theorem sm_Jm_max : Cond.static Lib.Math.max.name ∈ ab_tbl := (ab_mem (List.mem_append_right _ (List.mem_of_getElem? (i := 426) rfl)) rfl)
theorem co_Jm_max : Cond.code Lib.Math.max.name Lib.Math.max.code 2 (some .int) ∈ ab_tbl := (ab_mem (List.mem_append_right _ (List.mem_of_getElem? (i := 427) rfl)) rfl)
set_option maxRecDepth 20000 in
theorem sm_Jm_min : Cond.static Lib.Math.min.name ∈ ab_tbl := (ab_mem (List.mem_append_right _ (List.mem_of_getElem? (i := 482) rfl)) rfl)
set_option maxRecDepth 20000 in
theorem co_Jm_min : Cond.code Lib.Math.min.name Lib.Math.min.code 2 (some .int) ∈ ab_tbl := (ab_mem (List.mem_append_right _ (List.mem_of_getElem? (i := 483) rfl)) rfl)
set_option maxRecDepth 20000 in
theorem sm_Jm_lmax : Cond.static Lib.MathLoose.max_long.x ∈ ab_tbl := (ab_mem (List.mem_append_right _ (List.mem_of_getElem? (i := 576) rfl)) rfl)
set_option maxRecDepth 20000 in
theorem co_Jm_lmax : Cond.code Lib.MathLoose.max_long.x Lib.MathLoose.max_long.code 4 (some .long) ∈ ab_tbl := (ab_mem (List.mem_append_right _ (List.mem_of_getElem? (i := 577) rfl)) rfl)
set_option maxRecDepth 20000 in
theorem sm_Jm_lmin : Cond.static Lib.MathLoose.min_long.x ∈ ab_tbl := (ab_mem (List.mem_append_right _ (List.mem_of_getElem? (i := 568) rfl)) rfl)
set_option maxRecDepth 20000 in
theorem co_Jm_lmin : Cond.code Lib.MathLoose.min_long.x Lib.MathLoose.min_long.code 4 (some .long) ∈ ab_tbl := (ab_mem (List.mem_append_right _ (List.mem_of_getElem? (i := 569) rfl)) rfl)
theorem in_Jm : Cond.initialized "java/lang/Math" ∈ ab_tbl := (ab_mem (List.mem_append_right _ (List.mem_of_getElem? (i := 11) rfl)) rfl)
