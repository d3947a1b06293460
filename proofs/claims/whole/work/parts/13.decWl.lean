theorem d_Wl_init_0 : decode b_Wl_init 0 = .ok (.aload_n 0, 1) := by decide +kernel
theorem d_Wl_init_1 : decode b_Wl_init 1 = .ok (.invokespecial 3, 3) := by decide +kernel
theorem d_Wl_init_4 : decode b_Wl_init 4 = .ok (.aload_n 0, 1) := by decide +kernel
theorem d_Wl_init_5 : decode b_Wl_init 5 = .ok (.bipush 10, 2) := by decide +kernel
theorem d_Wl_init_7 : decode b_Wl_init 7 = .ok (.newarray .long, 2) := by decide +kernel
theorem d_Wl_init_9 : decode b_Wl_init 9 = .ok (.putfield 9, 3) := by decide +kernel
theorem d_Wl_init_12 : decode b_Wl_init 12 = .ok (.aload_n 0, 1) := by decide +kernel
theorem d_Wl_init_13 : decode b_Wl_init 13 = .ok (.bipush 10, 2) := by decide +kernel
theorem d_Wl_init_15 : decode b_Wl_init 15 = .ok (.newarray .int, 2) := by decide +kernel
theorem d_Wl_init_17 : decode b_Wl_init 17 = .ok (.putfield 15, 3) := by decide +kernel
theorem d_Wl_init_20 : decode b_Wl_init 20 = .ok (.aload_n 0, 1) := by decide +kernel
theorem d_Wl_init_21 : decode b_Wl_init 21 = .ok (.iconst 0, 1) := by decide +kernel
theorem d_Wl_init_22 : decode b_Wl_init 22 = .ok (.putfield 19, 3) := by decide +kernel
theorem d_Wl_init_25 : decode b_Wl_init 25 = .ok (.return_, 1) := by decide +kernel
theorem d_Wl_offer_0 : decode b_Wl_offer 0 = .ok (.lload_n 1, 1) := by decide +kernel
theorem d_Wl_offer_1 : decode b_Wl_offer 1 = .ok (.lconst 0, 1) := by decide +kernel
theorem d_Wl_offer_2 : decode b_Wl_offer 2 = .ok (.lcmp, 1) := by decide +kernel
theorem d_Wl_offer_3 : decode b_Wl_offer 3 = .ok (.ifCond .gt 5, 3) := by decide +kernel
theorem d_Wl_offer_6 : decode b_Wl_offer 6 = .ok (.iconst 0, 1) := by decide +kernel
theorem d_Wl_offer_7 : decode b_Wl_offer 7 = .ok (.ireturn, 1) := by decide +kernel
theorem d_Wl_offer_8 : decode b_Wl_offer 8 = .ok (.aload_n 0, 1) := by decide +kernel
theorem d_Wl_offer_9 : decode b_Wl_offer 9 = .ok (.getfield 19, 3) := by decide +kernel
theorem d_Wl_offer_12 : decode b_Wl_offer 12 = .ok (.istore 4, 2) := by decide +kernel
theorem d_Wl_offer_14 : decode b_Wl_offer 14 = .ok (.iload 4, 2) := by decide +kernel
theorem d_Wl_offer_16 : decode b_Wl_offer 16 = .ok (.ifCond .le 22, 3) := by decide +kernel
theorem d_Wl_offer_19 : decode b_Wl_offer 19 = .ok (.aload_n 0, 1) := by decide +kernel
theorem d_Wl_offer_20 : decode b_Wl_offer 20 = .ok (.lload_n 1, 1) := by decide +kernel
theorem d_Wl_offer_21 : decode b_Wl_offer 21 = .ok (.iload_n 3, 1) := by decide +kernel
theorem d_Wl_offer_22 : decode b_Wl_offer 22 = .ok (.iload 4, 2) := by decide +kernel
theorem d_Wl_offer_24 : decode b_Wl_offer 24 = .ok (.iconst 1, 1) := by decide +kernel
theorem d_Wl_offer_25 : decode b_Wl_offer 25 = .ok (.isub, 1) := by decide +kernel
theorem d_Wl_offer_26 : decode b_Wl_offer 26 = .ok (.invokevirtual 23, 3) := by decide +kernel
theorem d_Wl_offer_29 : decode b_Wl_offer 29 = .ok (.ifCond .eq 9, 3) := by decide +kernel
theorem d_Wl_offer_32 : decode b_Wl_offer 32 = .ok (.iinc 4 (-1), 3) := by decide +kernel
theorem d_Wl_offer_35 : decode b_Wl_offer 35 = .ok (.goto (-21), 3) := by decide +kernel
theorem d_Wl_offer_38 : decode b_Wl_offer 38 = .ok (.iload 4, 2) := by decide +kernel
theorem d_Wl_offer_40 : decode b_Wl_offer 40 = .ok (.bipush 10, 2) := by decide +kernel
theorem d_Wl_offer_42 : decode b_Wl_offer 42 = .ok (.if_icmp .lt 5, 3) := by decide +kernel
theorem d_Wl_offer_45 : decode b_Wl_offer 45 = .ok (.iconst 0, 1) := by decide +kernel
theorem d_Wl_offer_46 : decode b_Wl_offer 46 = .ok (.ireturn, 1) := by decide +kernel
theorem d_Wl_offer_47 : decode b_Wl_offer 47 = .ok (.aload_n 0, 1) := by decide +kernel
theorem d_Wl_offer_48 : decode b_Wl_offer 48 = .ok (.aload_n 0, 1) := by decide +kernel
theorem d_Wl_offer_49 : decode b_Wl_offer 49 = .ok (.getfield 19, 3) := by decide +kernel
theorem d_Wl_offer_52 : decode b_Wl_offer 52 = .ok (.iconst 1, 1) := by decide +kernel
theorem d_Wl_offer_53 : decode b_Wl_offer 53 = .ok (.iadd, 1) := by decide +kernel
theorem d_Wl_offer_54 : decode b_Wl_offer 54 = .ok (.bipush 10, 2) := by decide +kernel
theorem d_Wl_offer_56 : decode b_Wl_offer 56 = .ok (.invokestatic 27, 3) := by decide +kernel
theorem d_Wl_offer_59 : decode b_Wl_offer 59 = .ok (.putfield 19, 3) := by decide +kernel
theorem d_Wl_offer_62 : decode b_Wl_offer 62 = .ok (.aload_n 0, 1) := by decide +kernel
theorem d_Wl_offer_63 : decode b_Wl_offer 63 = .ok (.getfield 19, 3) := by decide +kernel
theorem d_Wl_offer_66 : decode b_Wl_offer 66 = .ok (.iconst 1, 1) := by decide +kernel
theorem d_Wl_offer_67 : decode b_Wl_offer 67 = .ok (.isub, 1) := by decide +kernel
theorem d_Wl_offer_68 : decode b_Wl_offer 68 = .ok (.istore 5, 2) := by decide +kernel
theorem d_Wl_offer_70 : decode b_Wl_offer 70 = .ok (.iload 5, 2) := by decide +kernel
theorem d_Wl_offer_72 : decode b_Wl_offer 72 = .ok (.iload 4, 2) := by decide +kernel
theorem d_Wl_offer_74 : decode b_Wl_offer 74 = .ok (.if_icmp .le 41, 3) := by decide +kernel
theorem d_Wl_offer_77 : decode b_Wl_offer 77 = .ok (.aload_n 0, 1) := by decide +kernel
theorem d_Wl_offer_78 : decode b_Wl_offer 78 = .ok (.getfield 9, 3) := by decide +kernel
theorem d_Wl_offer_81 : decode b_Wl_offer 81 = .ok (.iload 5, 2) := by decide +kernel
theorem d_Wl_offer_83 : decode b_Wl_offer 83 = .ok (.aload_n 0, 1) := by decide +kernel
theorem d_Wl_offer_84 : decode b_Wl_offer 84 = .ok (.getfield 9, 3) := by decide +kernel
theorem d_Wl_offer_87 : decode b_Wl_offer 87 = .ok (.iload 5, 2) := by decide +kernel
theorem d_Wl_offer_89 : decode b_Wl_offer 89 = .ok (.iconst 1, 1) := by decide +kernel
theorem d_Wl_offer_90 : decode b_Wl_offer 90 = .ok (.isub, 1) := by decide +kernel
theorem d_Wl_offer_91 : decode b_Wl_offer 91 = .ok (.laload, 1) := by decide +kernel
theorem d_Wl_offer_92 : decode b_Wl_offer 92 = .ok (.lastore, 1) := by decide +kernel
theorem d_Wl_offer_93 : decode b_Wl_offer 93 = .ok (.aload_n 0, 1) := by decide +kernel
theorem d_Wl_offer_94 : decode b_Wl_offer 94 = .ok (.getfield 15, 3) := by decide +kernel
theorem d_Wl_offer_97 : decode b_Wl_offer 97 = .ok (.iload 5, 2) := by decide +kernel
theorem d_Wl_offer_99 : decode b_Wl_offer 99 = .ok (.aload_n 0, 1) := by decide +kernel
theorem d_Wl_offer_100 : decode b_Wl_offer 100 = .ok (.getfield 15, 3) := by decide +kernel
theorem d_Wl_offer_103 : decode b_Wl_offer 103 = .ok (.iload 5, 2) := by decide +kernel
theorem d_Wl_offer_105 : decode b_Wl_offer 105 = .ok (.iconst 1, 1) := by decide +kernel
theorem d_Wl_offer_106 : decode b_Wl_offer 106 = .ok (.isub, 1) := by decide +kernel
theorem d_Wl_offer_107 : decode b_Wl_offer 107 = .ok (.iaload, 1) := by decide +kernel
theorem d_Wl_offer_108 : decode b_Wl_offer 108 = .ok (.iastore, 1) := by decide +kernel
theorem d_Wl_offer_109 : decode b_Wl_offer 109 = .ok (.iinc 5 (-1), 3) := by decide +kernel
theorem d_Wl_offer_112 : decode b_Wl_offer 112 = .ok (.goto (-42), 3) := by decide +kernel
theorem d_Wl_offer_115 : decode b_Wl_offer 115 = .ok (.aload_n 0, 1) := by decide +kernel
theorem d_Wl_offer_116 : decode b_Wl_offer 116 = .ok (.getfield 9, 3) := by decide +kernel
theorem d_Wl_offer_119 : decode b_Wl_offer 119 = .ok (.iload 4, 2) := by decide +kernel
theorem d_Wl_offer_121 : decode b_Wl_offer 121 = .ok (.lload_n 1, 1) := by decide +kernel
theorem d_Wl_offer_122 : decode b_Wl_offer 122 = .ok (.lastore, 1) := by decide +kernel
theorem d_Wl_offer_123 : decode b_Wl_offer 123 = .ok (.aload_n 0, 1) := by decide +kernel
theorem d_Wl_offer_124 : decode b_Wl_offer 124 = .ok (.getfield 15, 3) := by decide +kernel
theorem d_Wl_offer_127 : decode b_Wl_offer 127 = .ok (.iload 4, 2) := by decide +kernel
theorem d_Wl_offer_129 : decode b_Wl_offer 129 = .ok (.iload_n 3, 1) := by decide +kernel
theorem d_Wl_offer_130 : decode b_Wl_offer 130 = .ok (.iastore, 1) := by decide +kernel
theorem d_Wl_offer_131 : decode b_Wl_offer 131 = .ok (.iconst 1, 1) := by decide +kernel
theorem d_Wl_offer_132 : decode b_Wl_offer 132 = .ok (.ireturn, 1) := by decide +kernel
theorem d_Wl_isBetter_0 : decode b_Wl_isBetter 0 = .ok (.lload_n 1, 1) := by decide +kernel
theorem d_Wl_isBetter_1 : decode b_Wl_isBetter 1 = .ok (.aload_n 0, 1) := by decide +kernel
theorem d_Wl_isBetter_2 : decode b_Wl_isBetter 2 = .ok (.getfield 9, 3) := by decide +kernel
theorem d_Wl_isBetter_5 : decode b_Wl_isBetter 5 = .ok (.iload 4, 2) := by decide +kernel
theorem d_Wl_isBetter_7 : decode b_Wl_isBetter 7 = .ok (.laload, 1) := by decide +kernel
theorem d_Wl_isBetter_8 : decode b_Wl_isBetter 8 = .ok (.lcmp, 1) := by decide +kernel
theorem d_Wl_isBetter_9 : decode b_Wl_isBetter 9 = .ok (.ifCond .gt 26, 3) := by decide +kernel
theorem d_Wl_isBetter_12 : decode b_Wl_isBetter 12 = .ok (.lload_n 1, 1) := by decide +kernel
theorem d_Wl_isBetter_13 : decode b_Wl_isBetter 13 = .ok (.aload_n 0, 1) := by decide +kernel
theorem d_Wl_isBetter_14 : decode b_Wl_isBetter 14 = .ok (.getfield 9, 3) := by decide +kernel
theorem d_Wl_isBetter_17 : decode b_Wl_isBetter 17 = .ok (.iload 4, 2) := by decide +kernel
theorem d_Wl_isBetter_19 : decode b_Wl_isBetter 19 = .ok (.laload, 1) := by decide +kernel
theorem d_Wl_isBetter_20 : decode b_Wl_isBetter 20 = .ok (.lcmp, 1) := by decide +kernel
theorem d_Wl_isBetter_21 : decode b_Wl_isBetter 21 = .ok (.ifCond .ne 18, 3) := by decide +kernel
theorem d_Wl_isBetter_24 : decode b_Wl_isBetter 24 = .ok (.iload_n 3, 1) := by decide +kernel
theorem d_Wl_isBetter_25 : decode b_Wl_isBetter 25 = .ok (.aload_n 0, 1) := by decide +kernel
theorem d_Wl_isBetter_26 : decode b_Wl_isBetter 26 = .ok (.getfield 15, 3) := by decide +kernel
theorem d_Wl_isBetter_29 : decode b_Wl_isBetter 29 = .ok (.iload 4, 2) := by decide +kernel
theorem d_Wl_isBetter_31 : decode b_Wl_isBetter 31 = .ok (.iaload, 1) := by decide +kernel
theorem d_Wl_isBetter_32 : decode b_Wl_isBetter 32 = .ok (.if_icmp .ge 7, 3) := by decide +kernel
theorem d_Wl_isBetter_35 : decode b_Wl_isBetter 35 = .ok (.iconst 1, 1) := by decide +kernel
theorem d_Wl_isBetter_36 : decode b_Wl_isBetter 36 = .ok (.goto 4, 3) := by decide +kernel
theorem d_Wl_isBetter_39 : decode b_Wl_isBetter 39 = .ok (.iconst 0, 1) := by decide +kernel
theorem d_Wl_isBetter_40 : decode b_Wl_isBetter 40 = .ok (.ireturn, 1) := by decide +kernel
