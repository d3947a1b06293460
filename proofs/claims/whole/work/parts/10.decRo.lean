theorem d_Ro_init_0 : decode b_Ro_init 0 = .ok (.aload_n 0, 1) := by decide +kernel
theorem d_Ro_init_1 : decode b_Ro_init 1 = .ok (.invokespecial 3, 3) := by decide +kernel
theorem d_Ro_init_4 : decode b_Ro_init 4 = .ok (.aload_n 0, 1) := by decide +kernel
theorem d_Ro_init_5 : decode b_Ro_init 5 = .ok (.bipush 6, 2) := by decide +kernel
theorem d_Ro_init_7 : decode b_Ro_init 7 = .ok (.newarray .int, 2) := by decide +kernel
theorem d_Ro_init_9 : decode b_Ro_init 9 = .ok (.putfield 9, 3) := by decide +kernel
theorem d_Ro_init_12 : decode b_Ro_init 12 = .ok (.aload_n 0, 1) := by decide +kernel
theorem d_Ro_init_13 : decode b_Ro_init 13 = .ok (.bipush 6, 2) := by decide +kernel
theorem d_Ro_init_15 : decode b_Ro_init 15 = .ok (.newarray .int, 2) := by decide +kernel
theorem d_Ro_init_17 : decode b_Ro_init 17 = .ok (.putfield 15, 3) := by decide +kernel
theorem d_Ro_init_20 : decode b_Ro_init 20 = .ok (.aload_n 0, 1) := by decide +kernel
theorem d_Ro_init_21 : decode b_Ro_init 21 = .ok (.iconst 0, 1) := by decide +kernel
theorem d_Ro_init_22 : decode b_Ro_init 22 = .ok (.putfield 18, 3) := by decide +kernel
theorem d_Ro_init_25 : decode b_Ro_init 25 = .ok (.return_, 1) := by decide +kernel
theorem d_Ro_append_0 : decode b_Ro_append 0 = .ok (.aload_n 0, 1) := by decide +kernel
theorem d_Ro_append_1 : decode b_Ro_append 1 = .ok (.getfield 18, 3) := by decide +kernel
theorem d_Ro_append_4 : decode b_Ro_append 4 = .ok (.bipush 6, 2) := by decide +kernel
theorem d_Ro_append_6 : decode b_Ro_append 6 = .ok (.if_icmp .lt 4, 3) := by decide +kernel
theorem d_Ro_append_9 : decode b_Ro_append 9 = .ok (.return_, 1) := by decide +kernel
theorem d_Ro_append_10 : decode b_Ro_append 10 = .ok (.aload_n 0, 1) := by decide +kernel
theorem d_Ro_append_11 : decode b_Ro_append 11 = .ok (.getfield 9, 3) := by decide +kernel
theorem d_Ro_append_14 : decode b_Ro_append 14 = .ok (.aload_n 0, 1) := by decide +kernel
theorem d_Ro_append_15 : decode b_Ro_append 15 = .ok (.getfield 18, 3) := by decide +kernel
theorem d_Ro_append_18 : decode b_Ro_append 18 = .ok (.iload_n 1, 1) := by decide +kernel
theorem d_Ro_append_19 : decode b_Ro_append 19 = .ok (.iastore, 1) := by decide +kernel
theorem d_Ro_append_20 : decode b_Ro_append 20 = .ok (.aload_n 0, 1) := by decide +kernel
theorem d_Ro_append_21 : decode b_Ro_append 21 = .ok (.getfield 15, 3) := by decide +kernel
theorem d_Ro_append_24 : decode b_Ro_append 24 = .ok (.aload_n 0, 1) := by decide +kernel
theorem d_Ro_append_25 : decode b_Ro_append 25 = .ok (.getfield 18, 3) := by decide +kernel
theorem d_Ro_append_28 : decode b_Ro_append 28 = .ok (.iconst (-1), 1) := by decide +kernel
theorem d_Ro_append_29 : decode b_Ro_append 29 = .ok (.iastore, 1) := by decide +kernel
theorem d_Ro_append_30 : decode b_Ro_append 30 = .ok (.aload_n 0, 1) := by decide +kernel
theorem d_Ro_append_31 : decode b_Ro_append 31 = .ok (.dup, 1) := by decide +kernel
theorem d_Ro_append_32 : decode b_Ro_append 32 = .ok (.getfield 18, 3) := by decide +kernel
theorem d_Ro_append_35 : decode b_Ro_append 35 = .ok (.iconst 1, 1) := by decide +kernel
theorem d_Ro_append_36 : decode b_Ro_append 36 = .ok (.iadd, 1) := by decide +kernel
theorem d_Ro_append_37 : decode b_Ro_append 37 = .ok (.putfield 18, 3) := by decide +kernel
theorem d_Ro_append_40 : decode b_Ro_append 40 = .ok (.return_, 1) := by decide +kernel
theorem d_Ro_has_0 : decode b_Ro_has 0 = .ok (.iload_n 1, 1) := by decide +kernel
theorem d_Ro_has_1 : decode b_Ro_has 1 = .ok (.ifCond .lt 21, 3) := by decide +kernel
theorem d_Ro_has_4 : decode b_Ro_has 4 = .ok (.iload_n 1, 1) := by decide +kernel
theorem d_Ro_has_5 : decode b_Ro_has 5 = .ok (.aload_n 0, 1) := by decide +kernel
theorem d_Ro_has_6 : decode b_Ro_has 6 = .ok (.getfield 18, 3) := by decide +kernel
theorem d_Ro_has_9 : decode b_Ro_has 9 = .ok (.if_icmp .ge 13, 3) := by decide +kernel
theorem d_Ro_has_12 : decode b_Ro_has 12 = .ok (.iload_n 1, 1) := by decide +kernel
theorem d_Ro_has_13 : decode b_Ro_has 13 = .ok (.bipush 6, 2) := by decide +kernel
theorem d_Ro_has_15 : decode b_Ro_has 15 = .ok (.if_icmp .ge 7, 3) := by decide +kernel
theorem d_Ro_has_18 : decode b_Ro_has 18 = .ok (.iconst 1, 1) := by decide +kernel
theorem d_Ro_has_19 : decode b_Ro_has 19 = .ok (.goto 4, 3) := by decide +kernel
theorem d_Ro_has_22 : decode b_Ro_has 22 = .ok (.iconst 0, 1) := by decide +kernel
theorem d_Ro_has_23 : decode b_Ro_has 23 = .ok (.ireturn, 1) := by decide +kernel
theorem d_Ro_toldAt_0 : decode b_Ro_toldAt 0 = .ok (.iload_n 1, 1) := by decide +kernel
theorem d_Ro_toldAt_1 : decode b_Ro_toldAt 1 = .ok (.iconst 3, 1) := by decide +kernel
theorem d_Ro_toldAt_2 : decode b_Ro_toldAt 2 = .ok (.aload_n 0, 1) := by decide +kernel
theorem d_Ro_toldAt_3 : decode b_Ro_toldAt 3 = .ok (.getfield 18, 3) := by decide +kernel
theorem d_Ro_toldAt_6 : decode b_Ro_toldAt 6 = .ok (.iconst 1, 1) := by decide +kernel
theorem d_Ro_toldAt_7 : decode b_Ro_toldAt 7 = .ok (.isub, 1) := by decide +kernel
theorem d_Ro_toldAt_8 : decode b_Ro_toldAt 8 = .ok (.iload_n 2, 1) := by decide +kernel
theorem d_Ro_toldAt_9 : decode b_Ro_toldAt 9 = .ok (.isub, 1) := by decide +kernel
theorem d_Ro_toldAt_10 : decode b_Ro_toldAt 10 = .ok (.imul, 1) := by decide +kernel
theorem d_Ro_toldAt_11 : decode b_Ro_toldAt 11 = .ok (.ishr, 1) := by decide +kernel
theorem d_Ro_toldAt_12 : decode b_Ro_toldAt 12 = .ok (.bipush 7, 2) := by decide +kernel
theorem d_Ro_toldAt_14 : decode b_Ro_toldAt 14 = .ok (.iand, 1) := by decide +kernel
theorem d_Ro_toldAt_15 : decode b_Ro_toldAt 15 = .ok (.ireturn, 1) := by decide +kernel
