theorem d_Ki_init_0 : decode b_Ki_init 0 = .ok (.aload_n 0, 1) := by decide +kernel
theorem d_Ki_init_1 : decode b_Ki_init 1 = .ok (.invokespecial 3, 3) := by decide +kernel
theorem d_Ki_init_4 : decode b_Ki_init 4 = .ok (.aload_n 0, 1) := by decide +kernel
theorem d_Ki_init_5 : decode b_Ki_init 5 = .ok (.iconst 4, 1) := by decide +kernel
theorem d_Ki_init_6 : decode b_Ki_init 6 = .ok (.bipush 16, 2) := by decide +kernel
theorem d_Ki_init_8 : decode b_Ki_init 8 = .ok (.multianewarray 9 2, 4) := by decide +kernel
theorem d_Ki_init_12 : decode b_Ki_init 12 = .ok (.putfield 11, 3) := by decide +kernel
theorem d_Ki_init_15 : decode b_Ki_init 15 = .ok (.aload_n 0, 1) := by decide +kernel
theorem d_Ki_init_16 : decode b_Ki_init 16 = .ok (.iconst 4, 1) := by decide +kernel
theorem d_Ki_init_17 : decode b_Ki_init 17 = .ok (.iconst 4, 1) := by decide +kernel
theorem d_Ki_init_18 : decode b_Ki_init 18 = .ok (.multianewarray 9 2, 4) := by decide +kernel
theorem d_Ki_init_22 : decode b_Ki_init 22 = .ok (.putfield 16, 3) := by decide +kernel
theorem d_Ki_init_25 : decode b_Ki_init 25 = .ok (.aload_n 0, 1) := by decide +kernel
theorem d_Ki_init_26 : decode b_Ki_init 26 = .ok (.iconst 0, 1) := by decide +kernel
theorem d_Ki_init_27 : decode b_Ki_init 27 = .ok (.putfield 19, 3) := by decide +kernel
theorem d_Ki_init_30 : decode b_Ki_init 30 = .ok (.return_, 1) := by decide +kernel
theorem d_Ki_has_0 : decode b_Ki_has 0 = .ok (.iload_n 1, 1) := by decide +kernel
theorem d_Ki_has_1 : decode b_Ki_has 1 = .ok (.ifCond .lt 20, 3) := by decide +kernel
theorem d_Ki_has_4 : decode b_Ki_has 4 = .ok (.iload_n 1, 1) := by decide +kernel
theorem d_Ki_has_5 : decode b_Ki_has 5 = .ok (.aload_n 0, 1) := by decide +kernel
theorem d_Ki_has_6 : decode b_Ki_has 6 = .ok (.getfield 19, 3) := by decide +kernel
theorem d_Ki_has_9 : decode b_Ki_has 9 = .ok (.if_icmp .ge 12, 3) := by decide +kernel
theorem d_Ki_has_12 : decode b_Ki_has 12 = .ok (.iload_n 1, 1) := by decide +kernel
theorem d_Ki_has_13 : decode b_Ki_has 13 = .ok (.iconst 4, 1) := by decide +kernel
theorem d_Ki_has_14 : decode b_Ki_has 14 = .ok (.if_icmp .ge 7, 3) := by decide +kernel
theorem d_Ki_has_17 : decode b_Ki_has 17 = .ok (.iconst 1, 1) := by decide +kernel
theorem d_Ki_has_18 : decode b_Ki_has 18 = .ok (.goto 4, 3) := by decide +kernel
theorem d_Ki_has_21 : decode b_Ki_has 21 = .ok (.iconst 0, 1) := by decide +kernel
theorem d_Ki_has_22 : decode b_Ki_has 22 = .ok (.ireturn, 1) := by decide +kernel
theorem d_Ki_parts_0 : decode b_Ki_parts 0 = .ok (.iload_n 0, 1) := by decide +kernel
theorem d_Ki_parts_1 : decode b_Ki_parts 1 = .ok (.iconst 4, 1) := by decide +kernel
theorem d_Ki_parts_2 : decode b_Ki_parts 2 = .ok (.imul, 1) := by decide +kernel
theorem d_Ki_parts_3 : decode b_Ki_parts 3 = .ok (.iload_n 1, 1) := by decide +kernel
theorem d_Ki_parts_4 : decode b_Ki_parts 4 = .ok (.iadd, 1) := by decide +kernel
theorem d_Ki_parts_5 : decode b_Ki_parts 5 = .ok (.ireturn, 1) := by decide +kernel
theorem d_Ki_leafOf_0 : decode b_Ki_leafOf 0 = .ok (.iload_n 2, 1) := by decide +kernel
theorem d_Ki_leafOf_1 : decode b_Ki_leafOf 1 = .ok (.iconst (-1), 1) := by decide +kernel
theorem d_Ki_leafOf_2 : decode b_Ki_leafOf 2 = .ok (.if_icmp .eq 12, 3) := by decide +kernel
theorem d_Ki_leafOf_5 : decode b_Ki_leafOf 5 = .ok (.aload_n 0, 1) := by decide +kernel
theorem d_Ki_leafOf_6 : decode b_Ki_leafOf 6 = .ok (.getfield 16, 3) := by decide +kernel
theorem d_Ki_leafOf_9 : decode b_Ki_leafOf 9 = .ok (.iload_n 1, 1) := by decide +kernel
theorem d_Ki_leafOf_10 : decode b_Ki_leafOf 10 = .ok (.aaload, 1) := by decide +kernel
theorem d_Ki_leafOf_11 : decode b_Ki_leafOf 11 = .ok (.iload_n 2, 1) := by decide +kernel
theorem d_Ki_leafOf_12 : decode b_Ki_leafOf 12 = .ok (.iaload, 1) := by decide +kernel
theorem d_Ki_leafOf_13 : decode b_Ki_leafOf 13 = .ok (.ireturn, 1) := by decide +kernel
theorem d_Ki_leafOf_14 : decode b_Ki_leafOf 14 = .ok (.iconst 0, 1) := by decide +kernel
theorem d_Ki_leafOf_15 : decode b_Ki_leafOf 15 = .ok (.istore_n 3, 1) := by decide +kernel
theorem d_Ki_leafOf_16 : decode b_Ki_leafOf 16 = .ok (.iconst 0, 1) := by decide +kernel
theorem d_Ki_leafOf_17 : decode b_Ki_leafOf 17 = .ok (.istore 4, 2) := by decide +kernel
theorem d_Ki_leafOf_19 : decode b_Ki_leafOf 19 = .ok (.iload 4, 2) := by decide +kernel
theorem d_Ki_leafOf_21 : decode b_Ki_leafOf 21 = .ok (.iconst 4, 1) := by decide +kernel
theorem d_Ki_leafOf_22 : decode b_Ki_leafOf 22 = .ok (.if_icmp .ge 21, 3) := by decide +kernel
theorem d_Ki_leafOf_25 : decode b_Ki_leafOf 25 = .ok (.iload_n 3, 1) := by decide +kernel
theorem d_Ki_leafOf_26 : decode b_Ki_leafOf 26 = .ok (.aload_n 0, 1) := by decide +kernel
theorem d_Ki_leafOf_27 : decode b_Ki_leafOf 27 = .ok (.getfield 16, 3) := by decide +kernel
theorem d_Ki_leafOf_30 : decode b_Ki_leafOf 30 = .ok (.iload_n 1, 1) := by decide +kernel
theorem d_Ki_leafOf_31 : decode b_Ki_leafOf 31 = .ok (.aaload, 1) := by decide +kernel
theorem d_Ki_leafOf_32 : decode b_Ki_leafOf 32 = .ok (.iload 4, 2) := by decide +kernel
theorem d_Ki_leafOf_34 : decode b_Ki_leafOf 34 = .ok (.iaload, 1) := by decide +kernel
theorem d_Ki_leafOf_35 : decode b_Ki_leafOf 35 = .ok (.iadd, 1) := by decide +kernel
theorem d_Ki_leafOf_36 : decode b_Ki_leafOf 36 = .ok (.istore_n 3, 1) := by decide +kernel
theorem d_Ki_leafOf_37 : decode b_Ki_leafOf 37 = .ok (.iinc 4 1, 3) := by decide +kernel
theorem d_Ki_leafOf_40 : decode b_Ki_leafOf 40 = .ok (.goto (-21), 3) := by decide +kernel
theorem d_Ki_leafOf_43 : decode b_Ki_leafOf 43 = .ok (.iload_n 3, 1) := by decide +kernel
theorem d_Ki_leafOf_44 : decode b_Ki_leafOf 44 = .ok (.ireturn, 1) := by decide +kernel
