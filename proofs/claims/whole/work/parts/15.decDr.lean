theorem d_Dr_init_0 : decode b_Dr_init 0 = .ok (.aload_n 0, 1) := by decide +kernel
theorem d_Dr_init_1 : decode b_Dr_init 1 = .ok (.invokespecial 3, 3) := by decide +kernel
theorem d_Dr_init_4 : decode b_Dr_init 4 = .ok (.aload_n 0, 1) := by decide +kernel
theorem d_Dr_init_5 : decode b_Dr_init 5 = .ok (.lconst 1, 1) := by decide +kernel
theorem d_Dr_init_6 : decode b_Dr_init 6 = .ok (.putfield 9, 3) := by decide +kernel
theorem d_Dr_init_9 : decode b_Dr_init 9 = .ok (.aload_n 0, 1) := by decide +kernel
theorem d_Dr_init_10 : decode b_Dr_init 10 = .ok (.iconst 0, 1) := by decide +kernel
theorem d_Dr_init_11 : decode b_Dr_init 11 = .ok (.putfield 15, 3) := by decide +kernel
theorem d_Dr_init_14 : decode b_Dr_init 14 = .ok (.aload_n 0, 1) := by decide +kernel
theorem d_Dr_init_15 : decode b_Dr_init 15 = .ok (.iconst 0, 1) := by decide +kernel
theorem d_Dr_init_16 : decode b_Dr_init 16 = .ok (.putfield 19, 3) := by decide +kernel
theorem d_Dr_init_19 : decode b_Dr_init 19 = .ok (.aload_n 0, 1) := by decide +kernel
theorem d_Dr_init_20 : decode b_Dr_init 20 = .ok (.lconst 1, 1) := by decide +kernel
theorem d_Dr_init_21 : decode b_Dr_init 21 = .ok (.putfield 22, 3) := by decide +kernel
theorem d_Dr_init_24 : decode b_Dr_init 24 = .ok (.aload_n 0, 1) := by decide +kernel
theorem d_Dr_init_25 : decode b_Dr_init 25 = .ok (.iconst 0, 1) := by decide +kernel
theorem d_Dr_init_26 : decode b_Dr_init 26 = .ok (.putfield 25, 3) := by decide +kernel
theorem d_Dr_init_29 : decode b_Dr_init 29 = .ok (.aload_n 0, 1) := by decide +kernel
theorem d_Dr_init_30 : decode b_Dr_init 30 = .ok (.iconst 0, 1) := by decide +kernel
theorem d_Dr_init_31 : decode b_Dr_init 31 = .ok (.putfield 28, 3) := by decide +kernel
theorem d_Dr_init_34 : decode b_Dr_init 34 = .ok (.aload_n 0, 1) := by decide +kernel
theorem d_Dr_init_35 : decode b_Dr_init 35 = .ok (.aload_n 1, 1) := by decide +kernel
theorem d_Dr_init_36 : decode b_Dr_init 36 = .ok (.putfield 32, 3) := by decide +kernel
theorem d_Dr_init_39 : decode b_Dr_init 39 = .ok (.aload_n 0, 1) := by decide +kernel
theorem d_Dr_init_40 : decode b_Dr_init 40 = .ok (.aload_n 2, 1) := by decide +kernel
theorem d_Dr_init_41 : decode b_Dr_init 41 = .ok (.putfield 36, 3) := by decide +kernel
theorem d_Dr_init_44 : decode b_Dr_init 44 = .ok (.aload_n 0, 1) := by decide +kernel
theorem d_Dr_init_45 : decode b_Dr_init 45 = .ok (.aload_n 3, 1) := by decide +kernel
theorem d_Dr_init_46 : decode b_Dr_init 46 = .ok (.putfield 40, 3) := by decide +kernel
theorem d_Dr_init_49 : decode b_Dr_init 49 = .ok (.return_, 1) := by decide +kernel
theorem d_Dr_spread_0 : decode b_Dr_spread 0 = .ok (.iload_n 0, 1) := by decide +kernel
theorem d_Dr_spread_1 : decode b_Dr_spread 1 = .ok (.ldc 44, 2) := by decide +kernel
theorem d_Dr_spread_3 : decode b_Dr_spread 3 = .ok (.imul, 1) := by decide +kernel
theorem d_Dr_spread_4 : decode b_Dr_spread 4 = .ok (.ldc 45, 2) := by decide +kernel
theorem d_Dr_spread_6 : decode b_Dr_spread 6 = .ok (.iadd, 1) := by decide +kernel
theorem d_Dr_spread_7 : decode b_Dr_spread 7 = .ok (.istore_n 1, 1) := by decide +kernel
theorem d_Dr_spread_8 : decode b_Dr_spread 8 = .ok (.iload_n 1, 1) := by decide +kernel
theorem d_Dr_spread_9 : decode b_Dr_spread 9 = .ok (.ldc 44, 2) := by decide +kernel
theorem d_Dr_spread_11 : decode b_Dr_spread 11 = .ok (.imul, 1) := by decide +kernel
theorem d_Dr_spread_12 : decode b_Dr_spread 12 = .ok (.ldc 45, 2) := by decide +kernel
theorem d_Dr_spread_14 : decode b_Dr_spread 14 = .ok (.iadd, 1) := by decide +kernel
theorem d_Dr_spread_15 : decode b_Dr_spread 15 = .ok (.istore_n 2, 1) := by decide +kernel
theorem d_Dr_spread_16 : decode b_Dr_spread 16 = .ok (.ldc2_w 46, 3) := by decide +kernel
theorem d_Dr_spread_19 : decode b_Dr_spread 19 = .ok (.iload_n 1, 1) := by decide +kernel
theorem d_Dr_spread_20 : decode b_Dr_spread 20 = .ok (.iconst 1, 1) := by decide +kernel
theorem d_Dr_spread_21 : decode b_Dr_spread 21 = .ok (.iushr, 1) := by decide +kernel
theorem d_Dr_spread_22 : decode b_Dr_spread 22 = .ok (.i2l, 1) := by decide +kernel
theorem d_Dr_spread_23 : decode b_Dr_spread 23 = .ok (.lmul, 1) := by decide +kernel
theorem d_Dr_spread_24 : decode b_Dr_spread 24 = .ok (.iload_n 2, 1) := by decide +kernel
theorem d_Dr_spread_25 : decode b_Dr_spread 25 = .ok (.iconst 1, 1) := by decide +kernel
theorem d_Dr_spread_26 : decode b_Dr_spread 26 = .ok (.iushr, 1) := by decide +kernel
theorem d_Dr_spread_27 : decode b_Dr_spread 27 = .ok (.i2l, 1) := by decide +kernel
theorem d_Dr_spread_28 : decode b_Dr_spread 28 = .ok (.ladd, 1) := by decide +kernel
theorem d_Dr_spread_29 : decode b_Dr_spread 29 = .ok (.lreturn, 1) := by decide +kernel
theorem d_Dr_draw_0 : decode b_Dr_draw 0 = .ok (.aload_n 0, 1) := by decide +kernel
theorem d_Dr_draw_1 : decode b_Dr_draw 1 = .ok (.getfield 40, 3) := by decide +kernel
theorem d_Dr_draw_4 : decode b_Dr_draw 4 = .ok (.invokevirtual 48, 3) := by decide +kernel
theorem d_Dr_draw_7 : decode b_Dr_draw 7 = .ok (.aload_n 0, 1) := by decide +kernel
theorem d_Dr_draw_8 : decode b_Dr_draw 8 = .ok (.iconst 1, 1) := by decide +kernel
theorem d_Dr_draw_9 : decode b_Dr_draw 9 = .ok (.putfield 28, 3) := by decide +kernel
theorem d_Dr_draw_12 : decode b_Dr_draw 12 = .ok (.aload_n 0, 1) := by decide +kernel
theorem d_Dr_draw_13 : decode b_Dr_draw 13 = .ok (.iconst 0, 1) := by decide +kernel
theorem d_Dr_draw_14 : decode b_Dr_draw 14 = .ok (.putfield 25, 3) := by decide +kernel
theorem d_Dr_draw_17 : decode b_Dr_draw 17 = .ok (.aload_n 0, 1) := by decide +kernel
theorem d_Dr_draw_18 : decode b_Dr_draw 18 = .ok (.lconst 1, 1) := by decide +kernel
theorem d_Dr_draw_19 : decode b_Dr_draw 19 = .ok (.putfield 9, 3) := by decide +kernel
theorem d_Dr_draw_22 : decode b_Dr_draw 22 = .ok (.aload_n 0, 1) := by decide +kernel
theorem d_Dr_draw_23 : decode b_Dr_draw 23 = .ok (.iconst 0, 1) := by decide +kernel
theorem d_Dr_draw_24 : decode b_Dr_draw 24 = .ok (.putfield 15, 3) := by decide +kernel
theorem d_Dr_draw_27 : decode b_Dr_draw 27 = .ok (.aload_n 0, 1) := by decide +kernel
theorem d_Dr_draw_28 : decode b_Dr_draw 28 = .ok (.iconst 0, 1) := by decide +kernel
theorem d_Dr_draw_29 : decode b_Dr_draw 29 = .ok (.putfield 19, 3) := by decide +kernel
theorem d_Dr_draw_32 : decode b_Dr_draw 32 = .ok (.lload_n 1, 1) := by decide +kernel
theorem d_Dr_draw_33 : decode b_Dr_draw 33 = .ok (.lstore_n 3, 1) := by decide +kernel
theorem d_Dr_draw_34 : decode b_Dr_draw 34 = .ok (.iconst 0, 1) := by decide +kernel
theorem d_Dr_draw_35 : decode b_Dr_draw 35 = .ok (.istore 5, 2) := by decide +kernel
theorem d_Dr_draw_37 : decode b_Dr_draw 37 = .ok (.iload 5, 2) := by decide +kernel
theorem d_Dr_draw_39 : decode b_Dr_draw 39 = .ok (.aload_n 0, 1) := by decide +kernel
theorem d_Dr_draw_40 : decode b_Dr_draw 40 = .ok (.getfield 32, 3) := by decide +kernel
theorem d_Dr_draw_43 : decode b_Dr_draw 43 = .ok (.getfield 53, 3) := by decide +kernel
theorem d_Dr_draw_46 : decode b_Dr_draw 46 = .ok (.if_icmp .ge 27, 3) := by decide +kernel
theorem d_Dr_draw_49 : decode b_Dr_draw 49 = .ok (.aload_n 0, 1) := by decide +kernel
theorem d_Dr_draw_50 : decode b_Dr_draw 50 = .ok (.aload_n 0, 1) := by decide +kernel
theorem d_Dr_draw_51 : decode b_Dr_draw 51 = .ok (.iload 5, 2) := by decide +kernel
theorem d_Dr_draw_53 : decode b_Dr_draw 53 = .ok (.invokevirtual 58, 3) := by decide +kernel
theorem d_Dr_draw_56 : decode b_Dr_draw 56 = .ok (.putfield 22, 3) := by decide +kernel
theorem d_Dr_draw_59 : decode b_Dr_draw 59 = .ok (.aload_n 0, 1) := by decide +kernel
theorem d_Dr_draw_60 : decode b_Dr_draw 60 = .ok (.iload 5, 2) := by decide +kernel
theorem d_Dr_draw_62 : decode b_Dr_draw 62 = .ok (.lload_n 3, 1) := by decide +kernel
theorem d_Dr_draw_63 : decode b_Dr_draw 63 = .ok (.invokevirtual 62, 3) := by decide +kernel
theorem d_Dr_draw_66 : decode b_Dr_draw 66 = .ok (.lstore_n 3, 1) := by decide +kernel
theorem d_Dr_draw_67 : decode b_Dr_draw 67 = .ok (.iinc 5 1, 3) := by decide +kernel
theorem d_Dr_draw_70 : decode b_Dr_draw 70 = .ok (.goto (-33), 3) := by decide +kernel
theorem d_Dr_draw_73 : decode b_Dr_draw 73 = .ok (.aload_n 0, 1) := by decide +kernel
theorem d_Dr_draw_74 : decode b_Dr_draw 74 = .ok (.getfield 9, 3) := by decide +kernel
theorem d_Dr_draw_77 : decode b_Dr_draw 77 = .ok (.aload_n 0, 1) := by decide +kernel
theorem d_Dr_draw_78 : decode b_Dr_draw 78 = .ok (.aload_n 0, 1) := by decide +kernel
theorem d_Dr_draw_79 : decode b_Dr_draw 79 = .ok (.getfield 32, 3) := by decide +kernel
theorem d_Dr_draw_82 : decode b_Dr_draw 82 = .ok (.getfield 53, 3) := by decide +kernel
theorem d_Dr_draw_85 : decode b_Dr_draw 85 = .ok (.invokevirtual 58, 3) := by decide +kernel
theorem d_Dr_draw_88 : decode b_Dr_draw 88 = .ok (.lmul, 1) := by decide +kernel
theorem d_Dr_draw_89 : decode b_Dr_draw 89 = .ok (.aload_n 0, 1) := by decide +kernel
theorem d_Dr_draw_90 : decode b_Dr_draw 90 = .ok (.getfield 36, 3) := by decide +kernel
theorem d_Dr_draw_93 : decode b_Dr_draw 93 = .ok (.getfield 66, 3) := by decide +kernel
theorem d_Dr_draw_96 : decode b_Dr_draw 96 = .ok (.aload_n 0, 1) := by decide +kernel
theorem d_Dr_draw_97 : decode b_Dr_draw 97 = .ok (.getfield 15, 3) := by decide +kernel
theorem d_Dr_draw_100 : decode b_Dr_draw 100 = .ok (.aaload, 1) := by decide +kernel
theorem d_Dr_draw_101 : decode b_Dr_draw 101 = .ok (.iconst 1, 1) := by decide +kernel
theorem d_Dr_draw_102 : decode b_Dr_draw 102 = .ok (.iaload, 1) := by decide +kernel
theorem d_Dr_draw_103 : decode b_Dr_draw 103 = .ok (.i2l, 1) := by decide +kernel
theorem d_Dr_draw_104 : decode b_Dr_draw 104 = .ok (.lmul, 1) := by decide +kernel
theorem d_Dr_draw_105 : decode b_Dr_draw 105 = .ok (.lreturn, 1) := by decide +kernel
theorem d_Dr_openSegment_0 : decode b_Dr_openSegment 0 = .ok (.iload_n 1, 1) := by decide +kernel
theorem d_Dr_openSegment_1 : decode b_Dr_openSegment 1 = .ok (.aload_n 0, 1) := by decide +kernel
theorem d_Dr_openSegment_2 : decode b_Dr_openSegment 2 = .ok (.getfield 19, 3) := by decide +kernel
theorem d_Dr_openSegment_5 : decode b_Dr_openSegment 5 = .ok (.isub, 1) := by decide +kernel
theorem d_Dr_openSegment_6 : decode b_Dr_openSegment 6 = .ok (.istore_n 2, 1) := by decide +kernel
theorem d_Dr_openSegment_7 : decode b_Dr_openSegment 7 = .ok (.iload_n 2, 1) := by decide +kernel
theorem d_Dr_openSegment_8 : decode b_Dr_openSegment 8 = .ok (.iconst 1, 1) := by decide +kernel
theorem d_Dr_openSegment_9 : decode b_Dr_openSegment 9 = .ok (.if_icmp .lt 27, 3) := by decide +kernel
theorem d_Dr_openSegment_12 : decode b_Dr_openSegment 12 = .ok (.iload_n 2, 1) := by decide +kernel
theorem d_Dr_openSegment_13 : decode b_Dr_openSegment 13 = .ok (.iconst 3, 1) := by decide +kernel
theorem d_Dr_openSegment_14 : decode b_Dr_openSegment 14 = .ok (.if_icmp .gt 22, 3) := by decide +kernel
theorem d_Dr_openSegment_17 : decode b_Dr_openSegment 17 = .ok (.aload_n 0, 1) := by decide +kernel
theorem d_Dr_openSegment_18 : decode b_Dr_openSegment 18 = .ok (.getfield 40, 3) := by decide +kernel
theorem d_Dr_openSegment_21 : decode b_Dr_openSegment 21 = .ok (.aload_n 0, 1) := by decide +kernel
theorem d_Dr_openSegment_22 : decode b_Dr_openSegment 22 = .ok (.getfield 19, 3) := by decide +kernel
theorem d_Dr_openSegment_25 : decode b_Dr_openSegment 25 = .ok (.iload_n 2, 1) := by decide +kernel
theorem d_Dr_openSegment_26 : decode b_Dr_openSegment 26 = .ok (.aload_n 0, 1) := by decide +kernel
theorem d_Dr_openSegment_27 : decode b_Dr_openSegment 27 = .ok (.getfield 15, 3) := by decide +kernel
theorem d_Dr_openSegment_30 : decode b_Dr_openSegment 30 = .ok (.invokevirtual 97, 3) := by decide +kernel
theorem d_Dr_openSegment_33 : decode b_Dr_openSegment 33 = .ok (.goto 4, 3) := by decide +kernel
theorem d_Dr_openSegment_36 : decode b_Dr_openSegment 36 = .ok (.lconst 0, 1) := by decide +kernel
theorem d_Dr_openSegment_37 : decode b_Dr_openSegment 37 = .ok (.lreturn, 1) := by decide +kernel
theorem d_Dr_tellPlace_0 : decode b_Dr_tellPlace 0 = .ok (.lload_n 2, 1) := by decide +kernel
theorem d_Dr_tellPlace_1 : decode b_Dr_tellPlace 1 = .ok (.lstore 4, 2) := by decide +kernel
theorem d_Dr_tellPlace_3 : decode b_Dr_tellPlace 3 = .ok (.iconst 0, 1) := by decide +kernel
theorem d_Dr_tellPlace_4 : decode b_Dr_tellPlace 4 = .ok (.istore 6, 2) := by decide +kernel
theorem d_Dr_tellPlace_6 : decode b_Dr_tellPlace 6 = .ok (.iload 6, 2) := by decide +kernel
theorem d_Dr_tellPlace_8 : decode b_Dr_tellPlace 8 = .ok (.iconst 2, 1) := by decide +kernel
theorem d_Dr_tellPlace_9 : decode b_Dr_tellPlace 9 = .ok (.aload_n 0, 1) := by decide +kernel
theorem d_Dr_tellPlace_10 : decode b_Dr_tellPlace 10 = .ok (.getfield 36, 3) := by decide +kernel
theorem d_Dr_tellPlace_13 : decode b_Dr_tellPlace 13 = .ok (.getfield 72, 3) := by decide +kernel
theorem d_Dr_tellPlace_16 : decode b_Dr_tellPlace 16 = .ok (.imul, 1) := by decide +kernel
theorem d_Dr_tellPlace_17 : decode b_Dr_tellPlace 17 = .ok (.if_icmp .ge 43, 3) := by decide +kernel
theorem d_Dr_tellPlace_20 : decode b_Dr_tellPlace 20 = .ok (.aload_n 0, 1) := by decide +kernel
theorem d_Dr_tellPlace_21 : decode b_Dr_tellPlace 21 = .ok (.iload_n 1, 1) := by decide +kernel
theorem d_Dr_tellPlace_22 : decode b_Dr_tellPlace 22 = .ok (.iload 6, 2) := by decide +kernel
theorem d_Dr_tellPlace_24 : decode b_Dr_tellPlace 24 = .ok (.invokevirtual 75, 3) := by decide +kernel
theorem d_Dr_tellPlace_27 : decode b_Dr_tellPlace 27 = .ok (.lstore 7, 2) := by decide +kernel
theorem d_Dr_tellPlace_29 : decode b_Dr_tellPlace 29 = .ok (.lload 4, 2) := by decide +kernel
theorem d_Dr_tellPlace_31 : decode b_Dr_tellPlace 31 = .ok (.lload 7, 2) := by decide +kernel
theorem d_Dr_tellPlace_33 : decode b_Dr_tellPlace 33 = .ok (.lcmp, 1) := by decide +kernel
theorem d_Dr_tellPlace_34 : decode b_Dr_tellPlace 34 = .ok (.ifCond .ge 13, 3) := by decide +kernel
theorem d_Dr_tellPlace_37 : decode b_Dr_tellPlace 37 = .ok (.aload_n 0, 1) := by decide +kernel
theorem d_Dr_tellPlace_38 : decode b_Dr_tellPlace 38 = .ok (.iload_n 1, 1) := by decide +kernel
theorem d_Dr_tellPlace_39 : decode b_Dr_tellPlace 39 = .ok (.iload 6, 2) := by decide +kernel
theorem d_Dr_tellPlace_41 : decode b_Dr_tellPlace 41 = .ok (.invokevirtual 79, 3) := by decide +kernel
theorem d_Dr_tellPlace_44 : decode b_Dr_tellPlace 44 = .ok (.lload 4, 2) := by decide +kernel
theorem d_Dr_tellPlace_46 : decode b_Dr_tellPlace 46 = .ok (.lreturn, 1) := by decide +kernel
theorem d_Dr_tellPlace_47 : decode b_Dr_tellPlace 47 = .ok (.lload 4, 2) := by decide +kernel
theorem d_Dr_tellPlace_49 : decode b_Dr_tellPlace 49 = .ok (.lload 7, 2) := by decide +kernel
theorem d_Dr_tellPlace_51 : decode b_Dr_tellPlace 51 = .ok (.lsub, 1) := by decide +kernel
theorem d_Dr_tellPlace_52 : decode b_Dr_tellPlace 52 = .ok (.lstore 4, 2) := by decide +kernel
theorem d_Dr_tellPlace_54 : decode b_Dr_tellPlace 54 = .ok (.iinc 6 1, 3) := by decide +kernel
theorem d_Dr_tellPlace_57 : decode b_Dr_tellPlace 57 = .ok (.goto (-51), 3) := by decide +kernel
theorem d_Dr_tellPlace_60 : decode b_Dr_tellPlace 60 = .ok (.lload 4, 2) := by decide +kernel
theorem d_Dr_tellPlace_62 : decode b_Dr_tellPlace 62 = .ok (.lreturn, 1) := by decide +kernel
theorem d_Dr_sumTelling_0 : decode b_Dr_sumTelling 0 = .ok (.iload_n 2, 1) := by decide +kernel
theorem d_Dr_sumTelling_1 : decode b_Dr_sumTelling 1 = .ok (.iconst 2, 1) := by decide +kernel
theorem d_Dr_sumTelling_2 : decode b_Dr_sumTelling 2 = .ok (.idiv, 1) := by decide +kernel
theorem d_Dr_sumTelling_3 : decode b_Dr_sumTelling 3 = .ok (.istore_n 3, 1) := by decide +kernel
theorem d_Dr_sumTelling_4 : decode b_Dr_sumTelling 4 = .ok (.iload_n 2, 1) := by decide +kernel
theorem d_Dr_sumTelling_5 : decode b_Dr_sumTelling 5 = .ok (.iconst 2, 1) := by decide +kernel
theorem d_Dr_sumTelling_6 : decode b_Dr_sumTelling 6 = .ok (.irem, 1) := by decide +kernel
theorem d_Dr_sumTelling_7 : decode b_Dr_sumTelling 7 = .ok (.ifCond .ne 27, 3) := by decide +kernel
theorem d_Dr_sumTelling_10 : decode b_Dr_sumTelling 10 = .ok (.aload_n 0, 1) := by decide +kernel
theorem d_Dr_sumTelling_11 : decode b_Dr_sumTelling 11 = .ok (.getfield 9, 3) := by decide +kernel
theorem d_Dr_sumTelling_14 : decode b_Dr_sumTelling 14 = .ok (.aload_n 0, 1) := by decide +kernel
theorem d_Dr_sumTelling_15 : decode b_Dr_sumTelling 15 = .ok (.iload_n 1, 1) := by decide +kernel
theorem d_Dr_sumTelling_16 : decode b_Dr_sumTelling 16 = .ok (.iload_n 3, 1) := by decide +kernel
theorem d_Dr_sumTelling_17 : decode b_Dr_sumTelling 17 = .ok (.invokevirtual 83, 3) := by decide +kernel
theorem d_Dr_sumTelling_20 : decode b_Dr_sumTelling 20 = .ok (.lmul, 1) := by decide +kernel
theorem d_Dr_sumTelling_21 : decode b_Dr_sumTelling 21 = .ok (.aload_n 0, 1) := by decide +kernel
theorem d_Dr_sumTelling_22 : decode b_Dr_sumTelling 22 = .ok (.getfield 40, 3) := by decide +kernel
theorem d_Dr_sumTelling_25 : decode b_Dr_sumTelling 25 = .ok (.getfield 86, 3) := by decide +kernel
theorem d_Dr_sumTelling_28 : decode b_Dr_sumTelling 28 = .ok (.iload_n 1, 1) := by decide +kernel
theorem d_Dr_sumTelling_29 : decode b_Dr_sumTelling 29 = .ok (.aaload, 1) := by decide +kernel
theorem d_Dr_sumTelling_30 : decode b_Dr_sumTelling 30 = .ok (.iload_n 3, 1) := by decide +kernel
theorem d_Dr_sumTelling_31 : decode b_Dr_sumTelling 31 = .ok (.laload, 1) := by decide +kernel
theorem d_Dr_sumTelling_32 : decode b_Dr_sumTelling 32 = .ok (.lmul, 1) := by decide +kernel
theorem d_Dr_sumTelling_33 : decode b_Dr_sumTelling 33 = .ok (.lreturn, 1) := by decide +kernel
theorem d_Dr_sumTelling_34 : decode b_Dr_sumTelling 34 = .ok (.iload_n 1, 1) := by decide +kernel
theorem d_Dr_sumTelling_35 : decode b_Dr_sumTelling 35 = .ok (.ifCond .eq 11, 3) := by decide +kernel
theorem d_Dr_sumTelling_38 : decode b_Dr_sumTelling 38 = .ok (.iload_n 3, 1) := by decide +kernel
theorem d_Dr_sumTelling_39 : decode b_Dr_sumTelling 39 = .ok (.aload_n 0, 1) := by decide +kernel
theorem d_Dr_sumTelling_40 : decode b_Dr_sumTelling 40 = .ok (.getfield 15, 3) := by decide +kernel
theorem d_Dr_sumTelling_43 : decode b_Dr_sumTelling 43 = .ok (.if_icmp .eq 5, 3) := by decide +kernel
theorem d_Dr_sumTelling_46 : decode b_Dr_sumTelling 46 = .ok (.lconst 0, 1) := by decide +kernel
theorem d_Dr_sumTelling_47 : decode b_Dr_sumTelling 47 = .ok (.lreturn, 1) := by decide +kernel
theorem d_Dr_sumTelling_48 : decode b_Dr_sumTelling 48 = .ok (.aload_n 0, 1) := by decide +kernel
theorem d_Dr_sumTelling_49 : decode b_Dr_sumTelling 49 = .ok (.getfield 9, 3) := by decide +kernel
theorem d_Dr_sumTelling_52 : decode b_Dr_sumTelling 52 = .ok (.aload_n 0, 1) := by decide +kernel
theorem d_Dr_sumTelling_53 : decode b_Dr_sumTelling 53 = .ok (.getfield 40, 3) := by decide +kernel
theorem d_Dr_sumTelling_56 : decode b_Dr_sumTelling 56 = .ok (.iload_n 1, 1) := by decide +kernel
theorem d_Dr_sumTelling_57 : decode b_Dr_sumTelling 57 = .ok (.aload_n 0, 1) := by decide +kernel
theorem d_Dr_sumTelling_58 : decode b_Dr_sumTelling 58 = .ok (.getfield 19, 3) := by decide +kernel
theorem d_Dr_sumTelling_61 : decode b_Dr_sumTelling 61 = .ok (.isub, 1) := by decide +kernel
theorem d_Dr_sumTelling_62 : decode b_Dr_sumTelling 62 = .ok (.aload_n 0, 1) := by decide +kernel
theorem d_Dr_sumTelling_63 : decode b_Dr_sumTelling 63 = .ok (.getfield 19, 3) := by decide +kernel
theorem d_Dr_sumTelling_66 : decode b_Dr_sumTelling 66 = .ok (.iload_n 3, 1) := by decide +kernel
theorem d_Dr_sumTelling_67 : decode b_Dr_sumTelling 67 = .ok (.invokevirtual 90, 3) := by decide +kernel
theorem d_Dr_sumTelling_70 : decode b_Dr_sumTelling 70 = .ok (.lmul, 1) := by decide +kernel
theorem d_Dr_sumTelling_71 : decode b_Dr_sumTelling 71 = .ok (.lreturn, 1) := by decide +kernel
theorem d_Dr_closing_0 : decode b_Dr_closing 0 = .ok (.iload_n 1, 1) := by decide +kernel
theorem d_Dr_closing_1 : decode b_Dr_closing 1 = .ok (.ifCond .ne 16, 3) := by decide +kernel
theorem d_Dr_closing_4 : decode b_Dr_closing 4 = .ok (.aload_n 0, 1) := by decide +kernel
theorem d_Dr_closing_5 : decode b_Dr_closing 5 = .ok (.getfield 36, 3) := by decide +kernel
theorem d_Dr_closing_8 : decode b_Dr_closing 8 = .ok (.getfield 66, 3) := by decide +kernel
theorem d_Dr_closing_11 : decode b_Dr_closing 11 = .ok (.iload_n 2, 1) := by decide +kernel
theorem d_Dr_closing_12 : decode b_Dr_closing 12 = .ok (.aaload, 1) := by decide +kernel
theorem d_Dr_closing_13 : decode b_Dr_closing 13 = .ok (.iconst 0, 1) := by decide +kernel
theorem d_Dr_closing_14 : decode b_Dr_closing 14 = .ok (.iaload, 1) := by decide +kernel
theorem d_Dr_closing_15 : decode b_Dr_closing 15 = .ok (.i2l, 1) := by decide +kernel
theorem d_Dr_closing_16 : decode b_Dr_closing 16 = .ok (.lreturn, 1) := by decide +kernel
theorem d_Dr_closing_17 : decode b_Dr_closing 17 = .ok (.aload_n 0, 1) := by decide +kernel
theorem d_Dr_closing_18 : decode b_Dr_closing 18 = .ok (.getfield 22, 3) := by decide +kernel
theorem d_Dr_closing_21 : decode b_Dr_closing 21 = .ok (.aload_n 0, 1) := by decide +kernel
theorem d_Dr_closing_22 : decode b_Dr_closing 22 = .ok (.getfield 36, 3) := by decide +kernel
theorem d_Dr_closing_25 : decode b_Dr_closing 25 = .ok (.getfield 94, 3) := by decide +kernel
theorem d_Dr_closing_28 : decode b_Dr_closing 28 = .ok (.aload_n 0, 1) := by decide +kernel
theorem d_Dr_closing_29 : decode b_Dr_closing 29 = .ok (.getfield 15, 3) := by decide +kernel
theorem d_Dr_closing_32 : decode b_Dr_closing 32 = .ok (.aaload, 1) := by decide +kernel
theorem d_Dr_closing_33 : decode b_Dr_closing 33 = .ok (.iload_n 2, 1) := by decide +kernel
theorem d_Dr_closing_34 : decode b_Dr_closing 34 = .ok (.iaload, 1) := by decide +kernel
theorem d_Dr_closing_35 : decode b_Dr_closing 35 = .ok (.i2l, 1) := by decide +kernel
theorem d_Dr_closing_36 : decode b_Dr_closing 36 = .ok (.lmul, 1) := by decide +kernel
theorem d_Dr_closing_37 : decode b_Dr_closing 37 = .ok (.lreturn, 1) := by decide +kernel
theorem d_Dr_take_0 : decode b_Dr_take 0 = .ok (.aload_n 0, 1) := by decide +kernel
theorem d_Dr_take_1 : decode b_Dr_take 1 = .ok (.aload_n 0, 1) := by decide +kernel
theorem d_Dr_take_2 : decode b_Dr_take 2 = .ok (.getfield 25, 3) := by decide +kernel
theorem d_Dr_take_5 : decode b_Dr_take 5 = .ok (.iconst 3, 1) := by decide +kernel
theorem d_Dr_take_6 : decode b_Dr_take 6 = .ok (.ishl, 1) := by decide +kernel
theorem d_Dr_take_7 : decode b_Dr_take 7 = .ok (.iload_n 2, 1) := by decide +kernel
theorem d_Dr_take_8 : decode b_Dr_take 8 = .ok (.ior, 1) := by decide +kernel
theorem d_Dr_take_9 : decode b_Dr_take 9 = .ok (.putfield 25, 3) := by decide +kernel
theorem d_Dr_take_12 : decode b_Dr_take 12 = .ok (.iload_n 2, 1) := by decide +kernel
theorem d_Dr_take_13 : decode b_Dr_take 13 = .ok (.iconst 2, 1) := by decide +kernel
theorem d_Dr_take_14 : decode b_Dr_take 14 = .ok (.irem, 1) := by decide +kernel
theorem d_Dr_take_15 : decode b_Dr_take 15 = .ok (.ifCond .ne 32, 3) := by decide +kernel
theorem d_Dr_take_18 : decode b_Dr_take 18 = .ok (.aload_n 0, 1) := by decide +kernel
theorem d_Dr_take_19 : decode b_Dr_take 19 = .ok (.dup, 1) := by decide +kernel
theorem d_Dr_take_20 : decode b_Dr_take 20 = .ok (.getfield 9, 3) := by decide +kernel
theorem d_Dr_take_23 : decode b_Dr_take 23 = .ok (.aload_n 0, 1) := by decide +kernel
theorem d_Dr_take_24 : decode b_Dr_take 24 = .ok (.iload_n 1, 1) := by decide +kernel
theorem d_Dr_take_25 : decode b_Dr_take 25 = .ok (.iload_n 2, 1) := by decide +kernel
theorem d_Dr_take_26 : decode b_Dr_take 26 = .ok (.iconst 2, 1) := by decide +kernel
theorem d_Dr_take_27 : decode b_Dr_take 27 = .ok (.idiv, 1) := by decide +kernel
theorem d_Dr_take_28 : decode b_Dr_take 28 = .ok (.invokevirtual 83, 3) := by decide +kernel
theorem d_Dr_take_31 : decode b_Dr_take 31 = .ok (.lmul, 1) := by decide +kernel
theorem d_Dr_take_32 : decode b_Dr_take 32 = .ok (.putfield 9, 3) := by decide +kernel
theorem d_Dr_take_35 : decode b_Dr_take 35 = .ok (.aload_n 0, 1) := by decide +kernel
theorem d_Dr_take_36 : decode b_Dr_take 36 = .ok (.iload_n 2, 1) := by decide +kernel
theorem d_Dr_take_37 : decode b_Dr_take 37 = .ok (.iconst 2, 1) := by decide +kernel
theorem d_Dr_take_38 : decode b_Dr_take 38 = .ok (.idiv, 1) := by decide +kernel
theorem d_Dr_take_39 : decode b_Dr_take 39 = .ok (.putfield 15, 3) := by decide +kernel
theorem d_Dr_take_42 : decode b_Dr_take 42 = .ok (.aload_n 0, 1) := by decide +kernel
theorem d_Dr_take_43 : decode b_Dr_take 43 = .ok (.iload_n 1, 1) := by decide +kernel
theorem d_Dr_take_44 : decode b_Dr_take 44 = .ok (.putfield 19, 3) := by decide +kernel
theorem d_Dr_take_47 : decode b_Dr_take 47 = .ok (.return_, 1) := by decide +kernel
