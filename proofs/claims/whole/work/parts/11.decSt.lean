theorem d_St_init_0 : decode b_St_init 0 = .ok (.aload_n 0, 1) := by decide +kernel
theorem d_St_init_1 : decode b_St_init 1 = .ok (.invokespecial 3, 3) := by decide +kernel
theorem d_St_init_4 : decode b_St_init 4 = .ok (.aload_n 0, 1) := by decide +kernel
theorem d_St_init_5 : decode b_St_init 5 = .ok (.iconst 4, 1) := by decide +kernel
theorem d_St_init_6 : decode b_St_init 6 = .ok (.bipush 9, 2) := by decide +kernel
theorem d_St_init_8 : decode b_St_init 8 = .ok (.multianewarray 9 2, 4) := by decide +kernel
theorem d_St_init_12 : decode b_St_init 12 = .ok (.putfield 11, 3) := by decide +kernel
theorem d_St_init_15 : decode b_St_init 15 = .ok (.aload_n 0, 1) := by decide +kernel
theorem d_St_init_16 : decode b_St_init 16 = .ok (.iconst 4, 1) := by decide +kernel
theorem d_St_init_17 : decode b_St_init 17 = .ok (.iconst 4, 1) := by decide +kernel
theorem d_St_init_18 : decode b_St_init 18 = .ok (.multianewarray 9 2, 4) := by decide +kernel
theorem d_St_init_22 : decode b_St_init 22 = .ok (.putfield 16, 3) := by decide +kernel
theorem d_St_init_25 : decode b_St_init 25 = .ok (.aload_n 0, 1) := by decide +kernel
theorem d_St_init_26 : decode b_St_init 26 = .ok (.iconst 0, 1) := by decide +kernel
theorem d_St_init_27 : decode b_St_init 27 = .ok (.putfield 19, 3) := by decide +kernel
theorem d_St_init_30 : decode b_St_init 30 = .ok (.return_, 1) := by decide +kernel
theorem d_St_addOne_0 : decode b_St_addOne 0 = .ok (.aload_n 0, 1) := by decide +kernel
theorem d_St_addOne_1 : decode b_St_addOne 1 = .ok (.getfield 19, 3) := by decide +kernel
theorem d_St_addOne_4 : decode b_St_addOne 4 = .ok (.iconst 4, 1) := by decide +kernel
theorem d_St_addOne_5 : decode b_St_addOne 5 = .ok (.if_icmp .lt 6, 3) := by decide +kernel
theorem d_St_addOne_8 : decode b_St_addOne 8 = .ok (.bipush (-4), 2) := by decide +kernel
theorem d_St_addOne_10 : decode b_St_addOne 10 = .ok (.ireturn, 1) := by decide +kernel
theorem d_St_addOne_11 : decode b_St_addOne 11 = .ok (.aload_n 0, 1) := by decide +kernel
theorem d_St_addOne_12 : decode b_St_addOne 12 = .ok (.getfield 11, 3) := by decide +kernel
theorem d_St_addOne_15 : decode b_St_addOne 15 = .ok (.aload_n 0, 1) := by decide +kernel
theorem d_St_addOne_16 : decode b_St_addOne 16 = .ok (.getfield 19, 3) := by decide +kernel
theorem d_St_addOne_19 : decode b_St_addOne 19 = .ok (.aaload, 1) := by decide +kernel
theorem d_St_addOne_20 : decode b_St_addOne 20 = .ok (.iconst 0, 1) := by decide +kernel
theorem d_St_addOne_21 : decode b_St_addOne 21 = .ok (.iconst 1, 1) := by decide +kernel
theorem d_St_addOne_22 : decode b_St_addOne 22 = .ok (.iastore, 1) := by decide +kernel
theorem d_St_addOne_23 : decode b_St_addOne 23 = .ok (.aload_n 0, 1) := by decide +kernel
theorem d_St_addOne_24 : decode b_St_addOne 24 = .ok (.getfield 11, 3) := by decide +kernel
theorem d_St_addOne_27 : decode b_St_addOne 27 = .ok (.aload_n 0, 1) := by decide +kernel
theorem d_St_addOne_28 : decode b_St_addOne 28 = .ok (.getfield 19, 3) := by decide +kernel
theorem d_St_addOne_31 : decode b_St_addOne 31 = .ok (.aaload, 1) := by decide +kernel
theorem d_St_addOne_32 : decode b_St_addOne 32 = .ok (.iconst 1, 1) := by decide +kernel
theorem d_St_addOne_33 : decode b_St_addOne 33 = .ok (.iconst 1, 1) := by decide +kernel
theorem d_St_addOne_34 : decode b_St_addOne 34 = .ok (.iastore, 1) := by decide +kernel
theorem d_St_addOne_35 : decode b_St_addOne 35 = .ok (.aload_n 0, 1) := by decide +kernel
theorem d_St_addOne_36 : decode b_St_addOne 36 = .ok (.getfield 11, 3) := by decide +kernel
theorem d_St_addOne_39 : decode b_St_addOne 39 = .ok (.aload_n 0, 1) := by decide +kernel
theorem d_St_addOne_40 : decode b_St_addOne 40 = .ok (.getfield 19, 3) := by decide +kernel
theorem d_St_addOne_43 : decode b_St_addOne 43 = .ok (.aaload, 1) := by decide +kernel
theorem d_St_addOne_44 : decode b_St_addOne 44 = .ok (.iconst 2, 1) := by decide +kernel
theorem d_St_addOne_45 : decode b_St_addOne 45 = .ok (.iconst 1, 1) := by decide +kernel
theorem d_St_addOne_46 : decode b_St_addOne 46 = .ok (.iastore, 1) := by decide +kernel
theorem d_St_addOne_47 : decode b_St_addOne 47 = .ok (.aload_n 0, 1) := by decide +kernel
theorem d_St_addOne_48 : decode b_St_addOne 48 = .ok (.dup, 1) := by decide +kernel
theorem d_St_addOne_49 : decode b_St_addOne 49 = .ok (.getfield 19, 3) := by decide +kernel
theorem d_St_addOne_52 : decode b_St_addOne 52 = .ok (.iconst 1, 1) := by decide +kernel
theorem d_St_addOne_53 : decode b_St_addOne 53 = .ok (.iadd, 1) := by decide +kernel
theorem d_St_addOne_54 : decode b_St_addOne 54 = .ok (.putfield 19, 3) := by decide +kernel
theorem d_St_addOne_57 : decode b_St_addOne 57 = .ok (.aload_n 0, 1) := by decide +kernel
theorem d_St_addOne_58 : decode b_St_addOne 58 = .ok (.getfield 19, 3) := by decide +kernel
theorem d_St_addOne_61 : decode b_St_addOne 61 = .ok (.iconst 1, 1) := by decide +kernel
theorem d_St_addOne_62 : decode b_St_addOne 62 = .ok (.isub, 1) := by decide +kernel
theorem d_St_addOne_63 : decode b_St_addOne 63 = .ok (.ireturn, 1) := by decide +kernel
theorem d_St_has_0 : decode b_St_has 0 = .ok (.iload_n 1, 1) := by decide +kernel
theorem d_St_has_1 : decode b_St_has 1 = .ok (.ifCond .lt 20, 3) := by decide +kernel
theorem d_St_has_4 : decode b_St_has 4 = .ok (.iload_n 1, 1) := by decide +kernel
theorem d_St_has_5 : decode b_St_has 5 = .ok (.aload_n 0, 1) := by decide +kernel
theorem d_St_has_6 : decode b_St_has 6 = .ok (.getfield 19, 3) := by decide +kernel
theorem d_St_has_9 : decode b_St_has 9 = .ok (.if_icmp .ge 12, 3) := by decide +kernel
theorem d_St_has_12 : decode b_St_has 12 = .ok (.iload_n 1, 1) := by decide +kernel
theorem d_St_has_13 : decode b_St_has 13 = .ok (.iconst 4, 1) := by decide +kernel
theorem d_St_has_14 : decode b_St_has 14 = .ok (.if_icmp .ge 7, 3) := by decide +kernel
theorem d_St_has_17 : decode b_St_has 17 = .ok (.iconst 1, 1) := by decide +kernel
theorem d_St_has_18 : decode b_St_has 18 = .ok (.goto 4, 3) := by decide +kernel
theorem d_St_has_21 : decode b_St_has 21 = .ok (.iconst 0, 1) := by decide +kernel
theorem d_St_has_22 : decode b_St_has 22 = .ok (.ireturn, 1) := by decide +kernel
