theorem d_Tt_init_0 : decode b_Tt_init 0 = .ok (.aload_n 0, 1) := by decide +kernel
theorem d_Tt_init_1 : decode b_Tt_init 1 = .ok (.invokespecial 3, 3) := by decide +kernel
theorem d_Tt_init_4 : decode b_Tt_init 4 = .ok (.aload_n 0, 1) := by decide +kernel
theorem d_Tt_init_5 : decode b_Tt_init 5 = .ok (.iconst 4, 1) := by decide +kernel
theorem d_Tt_init_6 : decode b_Tt_init 6 = .ok (.bipush 36, 2) := by decide +kernel
theorem d_Tt_init_8 : decode b_Tt_init 8 = .ok (.multianewarray 11 2, 4) := by decide +kernel
theorem d_Tt_init_12 : decode b_Tt_init 12 = .ok (.putfield 13, 3) := by decide +kernel
theorem d_Tt_init_15 : decode b_Tt_init 15 = .ok (.aload_n 0, 1) := by decide +kernel
theorem d_Tt_init_16 : decode b_Tt_init 16 = .ok (.iconst 4, 1) := by decide +kernel
theorem d_Tt_init_17 : decode b_Tt_init 17 = .ok (.bipush 36, 2) := by decide +kernel
theorem d_Tt_init_19 : decode b_Tt_init 19 = .ok (.multianewarray 11 2, 4) := by decide +kernel
theorem d_Tt_init_23 : decode b_Tt_init 23 = .ok (.putfield 16, 3) := by decide +kernel
theorem d_Tt_init_26 : decode b_Tt_init 26 = .ok (.aload_n 0, 1) := by decide +kernel
theorem d_Tt_init_27 : decode b_Tt_init 27 = .ok (.iconst 4, 1) := by decide +kernel
theorem d_Tt_init_28 : decode b_Tt_init 28 = .ok (.bipush 36, 2) := by decide +kernel
theorem d_Tt_init_30 : decode b_Tt_init 30 = .ok (.multianewarray 11 2, 4) := by decide +kernel
theorem d_Tt_init_34 : decode b_Tt_init 34 = .ok (.putfield 19, 3) := by decide +kernel
theorem d_Tt_init_37 : decode b_Tt_init 37 = .ok (.aload_n 0, 1) := by decide +kernel
theorem d_Tt_init_38 : decode b_Tt_init 38 = .ok (.iconst 4, 1) := by decide +kernel
theorem d_Tt_init_39 : decode b_Tt_init 39 = .ok (.bipush 36, 2) := by decide +kernel
theorem d_Tt_init_41 : decode b_Tt_init 41 = .ok (.multianewarray 11 2, 4) := by decide +kernel
theorem d_Tt_init_45 : decode b_Tt_init 45 = .ok (.putfield 22, 3) := by decide +kernel
theorem d_Tt_init_48 : decode b_Tt_init 48 = .ok (.aload_n 0, 1) := by decide +kernel
theorem d_Tt_init_49 : decode b_Tt_init 49 = .ok (.bipush 7, 2) := by decide +kernel
theorem d_Tt_init_51 : decode b_Tt_init 51 = .ok (.newarray .int, 2) := by decide +kernel
theorem d_Tt_init_53 : decode b_Tt_init 53 = .ok (.putfield 25, 3) := by decide +kernel
theorem d_Tt_init_56 : decode b_Tt_init 56 = .ok (.aload_n 0, 1) := by decide +kernel
theorem d_Tt_init_57 : decode b_Tt_init 57 = .ok (.bipush 7, 2) := by decide +kernel
theorem d_Tt_init_59 : decode b_Tt_init 59 = .ok (.newarray .int, 2) := by decide +kernel
theorem d_Tt_init_61 : decode b_Tt_init 61 = .ok (.putfield 29, 3) := by decide +kernel
theorem d_Tt_init_64 : decode b_Tt_init 64 = .ok (.aload_n 0, 1) := by decide +kernel
theorem d_Tt_init_65 : decode b_Tt_init 65 = .ok (.iconst 0, 1) := by decide +kernel
theorem d_Tt_init_66 : decode b_Tt_init 66 = .ok (.putfield 32, 3) := by decide +kernel
theorem d_Tt_init_69 : decode b_Tt_init 69 = .ok (.aload_n 0, 1) := by decide +kernel
theorem d_Tt_init_70 : decode b_Tt_init 70 = .ok (.iconst 0, 1) := by decide +kernel
theorem d_Tt_init_71 : decode b_Tt_init 71 = .ok (.putfield 36, 3) := by decide +kernel
theorem d_Tt_init_74 : decode b_Tt_init 74 = .ok (.aload_n 0, 1) := by decide +kernel
theorem d_Tt_init_75 : decode b_Tt_init 75 = .ok (.aload_n 1, 1) := by decide +kernel
theorem d_Tt_init_76 : decode b_Tt_init 76 = .ok (.putfield 40, 3) := by decide +kernel
theorem d_Tt_init_79 : decode b_Tt_init 79 = .ok (.aload_n 0, 1) := by decide +kernel
theorem d_Tt_init_80 : decode b_Tt_init 80 = .ok (.aload_n 2, 1) := by decide +kernel
theorem d_Tt_init_81 : decode b_Tt_init 81 = .ok (.putfield 44, 3) := by decide +kernel
theorem d_Tt_init_84 : decode b_Tt_init 84 = .ok (.return_, 1) := by decide +kernel
theorem d_Tt_sumOfAll_0 : decode b_Tt_sumOfAll 0 = .ok (.aload_n 0, 1) := by decide +kernel
theorem d_Tt_sumOfAll_1 : decode b_Tt_sumOfAll 1 = .ok (.invokevirtual 48, 3) := by decide +kernel
theorem d_Tt_sumOfAll_4 : decode b_Tt_sumOfAll 4 = .ok (.aload_n 0, 1) := by decide +kernel
theorem d_Tt_sumOfAll_5 : decode b_Tt_sumOfAll 5 = .ok (.getfield 40, 3) := by decide +kernel
theorem d_Tt_sumOfAll_8 : decode b_Tt_sumOfAll 8 = .ok (.getfield 51, 3) := by decide +kernel
theorem d_Tt_sumOfAll_11 : decode b_Tt_sumOfAll 11 = .ok (.ifCond .le 26, 3) := by decide +kernel
theorem d_Tt_sumOfAll_14 : decode b_Tt_sumOfAll 14 = .ok (.aload_n 0, 1) := by decide +kernel
theorem d_Tt_sumOfAll_15 : decode b_Tt_sumOfAll 15 = .ok (.getfield 13, 3) := by decide +kernel
theorem d_Tt_sumOfAll_18 : decode b_Tt_sumOfAll 18 = .ok (.iload_n 1, 1) := by decide +kernel
theorem d_Tt_sumOfAll_19 : decode b_Tt_sumOfAll 19 = .ok (.aaload, 1) := by decide +kernel
theorem d_Tt_sumOfAll_20 : decode b_Tt_sumOfAll 20 = .ok (.iconst 0, 1) := by decide +kernel
theorem d_Tt_sumOfAll_21 : decode b_Tt_sumOfAll 21 = .ok (.aload_n 0, 1) := by decide +kernel
theorem d_Tt_sumOfAll_22 : decode b_Tt_sumOfAll 22 = .ok (.getfield 40, 3) := by decide +kernel
theorem d_Tt_sumOfAll_25 : decode b_Tt_sumOfAll 25 = .ok (.getfield 51, 3) := by decide +kernel
theorem d_Tt_sumOfAll_28 : decode b_Tt_sumOfAll 28 = .ok (.iconst 1, 1) := by decide +kernel
theorem d_Tt_sumOfAll_29 : decode b_Tt_sumOfAll 29 = .ok (.isub, 1) := by decide +kernel
theorem d_Tt_sumOfAll_30 : decode b_Tt_sumOfAll 30 = .ok (.invokestatic 56, 3) := by decide +kernel
theorem d_Tt_sumOfAll_33 : decode b_Tt_sumOfAll 33 = .ok (.laload, 1) := by decide +kernel
theorem d_Tt_sumOfAll_34 : decode b_Tt_sumOfAll 34 = .ok (.goto 4, 3) := by decide +kernel
theorem d_Tt_sumOfAll_37 : decode b_Tt_sumOfAll 37 = .ok (.lconst 0, 1) := by decide +kernel
theorem d_Tt_sumOfAll_38 : decode b_Tt_sumOfAll 38 = .ok (.lreturn, 1) := by decide +kernel
theorem d_Tt_refresh_0 : decode b_Tt_refresh 0 = .ok (.aload_n 0, 1) := by decide +kernel
theorem d_Tt_refresh_1 : decode b_Tt_refresh 1 = .ok (.getfield 36, 3) := by decide +kernel
theorem d_Tt_refresh_4 : decode b_Tt_refresh 4 = .ok (.ifCond .eq 4, 3) := by decide +kernel
theorem d_Tt_refresh_7 : decode b_Tt_refresh 7 = .ok (.return_, 1) := by decide +kernel
theorem d_Tt_refresh_8 : decode b_Tt_refresh 8 = .ok (.aload_n 0, 1) := by decide +kernel
theorem d_Tt_refresh_9 : decode b_Tt_refresh 9 = .ok (.iconst 1, 1) := by decide +kernel
theorem d_Tt_refresh_10 : decode b_Tt_refresh 10 = .ok (.putfield 36, 3) := by decide +kernel
theorem d_Tt_refresh_13 : decode b_Tt_refresh 13 = .ok (.iconst 1, 1) := by decide +kernel
theorem d_Tt_refresh_14 : decode b_Tt_refresh 14 = .ok (.istore_n 1, 1) := by decide +kernel
theorem d_Tt_refresh_15 : decode b_Tt_refresh 15 = .ok (.iload_n 1, 1) := by decide +kernel
theorem d_Tt_refresh_16 : decode b_Tt_refresh 16 = .ok (.aload_n 0, 1) := by decide +kernel
theorem d_Tt_refresh_17 : decode b_Tt_refresh 17 = .ok (.getfield 40, 3) := by decide +kernel
theorem d_Tt_refresh_20 : decode b_Tt_refresh 20 = .ok (.getfield 51, 3) := by decide +kernel
theorem d_Tt_refresh_23 : decode b_Tt_refresh 23 = .ok (.if_icmp .gt 60, 3) := by decide +kernel
theorem d_Tt_refresh_26 : decode b_Tt_refresh 26 = .ok (.iconst 0, 1) := by decide +kernel
theorem d_Tt_refresh_27 : decode b_Tt_refresh 27 = .ok (.istore_n 2, 1) := by decide +kernel
theorem d_Tt_refresh_28 : decode b_Tt_refresh 28 = .ok (.iload_n 2, 1) := by decide +kernel
theorem d_Tt_refresh_29 : decode b_Tt_refresh 29 = .ok (.iload_n 1, 1) := by decide +kernel
theorem d_Tt_refresh_30 : decode b_Tt_refresh 30 = .ok (.iadd, 1) := by decide +kernel
theorem d_Tt_refresh_31 : decode b_Tt_refresh 31 = .ok (.aload_n 0, 1) := by decide +kernel
theorem d_Tt_refresh_32 : decode b_Tt_refresh 32 = .ok (.getfield 40, 3) := by decide +kernel
theorem d_Tt_refresh_35 : decode b_Tt_refresh 35 = .ok (.getfield 51, 3) := by decide +kernel
theorem d_Tt_refresh_38 : decode b_Tt_refresh 38 = .ok (.if_icmp .gt 39, 3) := by decide +kernel
theorem d_Tt_refresh_41 : decode b_Tt_refresh 41 = .ok (.iconst 0, 1) := by decide +kernel
theorem d_Tt_refresh_42 : decode b_Tt_refresh 42 = .ok (.istore_n 3, 1) := by decide +kernel
theorem d_Tt_refresh_43 : decode b_Tt_refresh 43 = .ok (.iload_n 3, 1) := by decide +kernel
theorem d_Tt_refresh_44 : decode b_Tt_refresh 44 = .ok (.aload_n 0, 1) := by decide +kernel
theorem d_Tt_refresh_45 : decode b_Tt_refresh 45 = .ok (.getfield 44, 3) := by decide +kernel
theorem d_Tt_refresh_48 : decode b_Tt_refresh 48 = .ok (.getfield 60, 3) := by decide +kernel
theorem d_Tt_refresh_51 : decode b_Tt_refresh 51 = .ok (.if_icmp .ge 20, 3) := by decide +kernel
theorem d_Tt_refresh_54 : decode b_Tt_refresh 54 = .ok (.aload_n 0, 1) := by decide +kernel
theorem d_Tt_refresh_55 : decode b_Tt_refresh 55 = .ok (.iload_n 3, 1) := by decide +kernel
theorem d_Tt_refresh_56 : decode b_Tt_refresh 56 = .ok (.iload_n 2, 1) := by decide +kernel
theorem d_Tt_refresh_57 : decode b_Tt_refresh 57 = .ok (.iload_n 2, 1) := by decide +kernel
theorem d_Tt_refresh_58 : decode b_Tt_refresh 58 = .ok (.iload_n 1, 1) := by decide +kernel
theorem d_Tt_refresh_59 : decode b_Tt_refresh 59 = .ok (.iadd, 1) := by decide +kernel
theorem d_Tt_refresh_60 : decode b_Tt_refresh 60 = .ok (.iconst 1, 1) := by decide +kernel
theorem d_Tt_refresh_61 : decode b_Tt_refresh 61 = .ok (.isub, 1) := by decide +kernel
theorem d_Tt_refresh_62 : decode b_Tt_refresh 62 = .ok (.invokevirtual 64, 3) := by decide +kernel
theorem d_Tt_refresh_65 : decode b_Tt_refresh 65 = .ok (.iinc 3 1, 3) := by decide +kernel
theorem d_Tt_refresh_68 : decode b_Tt_refresh 68 = .ok (.goto (-25), 3) := by decide +kernel
theorem d_Tt_refresh_71 : decode b_Tt_refresh 71 = .ok (.iinc 2 1, 3) := by decide +kernel
theorem d_Tt_refresh_74 : decode b_Tt_refresh 74 = .ok (.goto (-46), 3) := by decide +kernel
theorem d_Tt_refresh_77 : decode b_Tt_refresh 77 = .ok (.iinc 1 1, 3) := by decide +kernel
theorem d_Tt_refresh_80 : decode b_Tt_refresh 80 = .ok (.goto (-65), 3) := by decide +kernel
theorem d_Tt_refresh_83 : decode b_Tt_refresh 83 = .ok (.return_, 1) := by decide +kernel
theorem d_Tt_fill_0 : decode b_Tt_fill 0 = .ok (.iload_n 2, 1) := by decide +kernel
theorem d_Tt_fill_1 : decode b_Tt_fill 1 = .ok (.iload_n 3, 1) := by decide +kernel
theorem d_Tt_fill_2 : decode b_Tt_fill 2 = .ok (.invokestatic 56, 3) := by decide +kernel
theorem d_Tt_fill_5 : decode b_Tt_fill 5 = .ok (.istore 4, 2) := by decide +kernel
theorem d_Tt_fill_7 : decode b_Tt_fill 7 = .ok (.iload_n 2, 1) := by decide +kernel
theorem d_Tt_fill_8 : decode b_Tt_fill 8 = .ok (.iload_n 3, 1) := by decide +kernel
theorem d_Tt_fill_9 : decode b_Tt_fill 9 = .ok (.if_icmp .ne 24, 3) := by decide +kernel
theorem d_Tt_fill_12 : decode b_Tt_fill 12 = .ok (.aload_n 0, 1) := by decide +kernel
theorem d_Tt_fill_13 : decode b_Tt_fill 13 = .ok (.getfield 44, 3) := by decide +kernel
theorem d_Tt_fill_16 : decode b_Tt_fill 16 = .ok (.iload_n 1, 1) := by decide +kernel
theorem d_Tt_fill_17 : decode b_Tt_fill 17 = .ok (.aload_n 0, 1) := by decide +kernel
theorem d_Tt_fill_18 : decode b_Tt_fill 18 = .ok (.getfield 40, 3) := by decide +kernel
theorem d_Tt_fill_21 : decode b_Tt_fill 21 = .ok (.getfield 68, 3) := by decide +kernel
theorem d_Tt_fill_24 : decode b_Tt_fill 24 = .ok (.iload_n 2, 1) := by decide +kernel
theorem d_Tt_fill_25 : decode b_Tt_fill 25 = .ok (.iaload, 1) := by decide +kernel
theorem d_Tt_fill_26 : decode b_Tt_fill 26 = .ok (.invokevirtual 71, 3) := by decide +kernel
theorem d_Tt_fill_29 : decode b_Tt_fill 29 = .ok (.i2l, 1) := by decide +kernel
theorem d_Tt_fill_30 : decode b_Tt_fill 30 = .ok (.goto 4, 3) := by decide +kernel
theorem d_Tt_fill_33 : decode b_Tt_fill 33 = .ok (.lconst 0, 1) := by decide +kernel
theorem d_Tt_fill_34 : decode b_Tt_fill 34 = .ok (.lstore 5, 2) := by decide +kernel
theorem d_Tt_fill_36 : decode b_Tt_fill 36 = .ok (.aload_n 0, 1) := by decide +kernel
theorem d_Tt_fill_37 : decode b_Tt_fill 37 = .ok (.getfield 13, 3) := by decide +kernel
theorem d_Tt_fill_40 : decode b_Tt_fill 40 = .ok (.iload_n 1, 1) := by decide +kernel
theorem d_Tt_fill_41 : decode b_Tt_fill 41 = .ok (.aaload, 1) := by decide +kernel
theorem d_Tt_fill_42 : decode b_Tt_fill 42 = .ok (.iload 4, 2) := by decide +kernel
theorem d_Tt_fill_44 : decode b_Tt_fill 44 = .ok (.lload 5, 2) := by decide +kernel
theorem d_Tt_fill_46 : decode b_Tt_fill 46 = .ok (.lastore, 1) := by decide +kernel
theorem d_Tt_fill_47 : decode b_Tt_fill 47 = .ok (.aload_n 0, 1) := by decide +kernel
theorem d_Tt_fill_48 : decode b_Tt_fill 48 = .ok (.getfield 16, 3) := by decide +kernel
theorem d_Tt_fill_51 : decode b_Tt_fill 51 = .ok (.iload_n 1, 1) := by decide +kernel
theorem d_Tt_fill_52 : decode b_Tt_fill 52 = .ok (.aaload, 1) := by decide +kernel
theorem d_Tt_fill_53 : decode b_Tt_fill 53 = .ok (.iload 4, 2) := by decide +kernel
theorem d_Tt_fill_55 : decode b_Tt_fill 55 = .ok (.lload 5, 2) := by decide +kernel
theorem d_Tt_fill_57 : decode b_Tt_fill 57 = .ok (.lconst 1, 1) := by decide +kernel
theorem d_Tt_fill_58 : decode b_Tt_fill 58 = .ok (.invokestatic 74, 3) := by decide +kernel
theorem d_Tt_fill_61 : decode b_Tt_fill 61 = .ok (.lastore, 1) := by decide +kernel
theorem d_Tt_fill_62 : decode b_Tt_fill 62 = .ok (.aload_n 0, 1) := by decide +kernel
theorem d_Tt_fill_63 : decode b_Tt_fill 63 = .ok (.getfield 19, 3) := by decide +kernel
theorem d_Tt_fill_66 : decode b_Tt_fill 66 = .ok (.iload_n 1, 1) := by decide +kernel
theorem d_Tt_fill_67 : decode b_Tt_fill 67 = .ok (.aaload, 1) := by decide +kernel
theorem d_Tt_fill_68 : decode b_Tt_fill 68 = .ok (.iload 4, 2) := by decide +kernel
theorem d_Tt_fill_70 : decode b_Tt_fill 70 = .ok (.lload 5, 2) := by decide +kernel
theorem d_Tt_fill_72 : decode b_Tt_fill 72 = .ok (.lastore, 1) := by decide +kernel
theorem d_Tt_fill_73 : decode b_Tt_fill 73 = .ok (.iload_n 2, 1) := by decide +kernel
theorem d_Tt_fill_74 : decode b_Tt_fill 74 = .ok (.iconst 1, 1) := by decide +kernel
theorem d_Tt_fill_75 : decode b_Tt_fill 75 = .ok (.iadd, 1) := by decide +kernel
theorem d_Tt_fill_76 : decode b_Tt_fill 76 = .ok (.istore 7, 2) := by decide +kernel
theorem d_Tt_fill_78 : decode b_Tt_fill 78 = .ok (.iload 7, 2) := by decide +kernel
theorem d_Tt_fill_80 : decode b_Tt_fill 80 = .ok (.iload_n 3, 1) := by decide +kernel
theorem d_Tt_fill_81 : decode b_Tt_fill 81 = .ok (.if_icmp .gt 30, 3) := by decide +kernel
theorem d_Tt_fill_84 : decode b_Tt_fill 84 = .ok (.aload_n 0, 1) := by decide +kernel
theorem d_Tt_fill_85 : decode b_Tt_fill 85 = .ok (.iload_n 1, 1) := by decide +kernel
theorem d_Tt_fill_86 : decode b_Tt_fill 86 = .ok (.iload 4, 2) := by decide +kernel
theorem d_Tt_fill_88 : decode b_Tt_fill 88 = .ok (.iload_n 2, 1) := by decide +kernel
theorem d_Tt_fill_89 : decode b_Tt_fill 89 = .ok (.iload 7, 2) := by decide +kernel
theorem d_Tt_fill_91 : decode b_Tt_fill 91 = .ok (.iconst 1, 1) := by decide +kernel
theorem d_Tt_fill_92 : decode b_Tt_fill 92 = .ok (.isub, 1) := by decide +kernel
theorem d_Tt_fill_93 : decode b_Tt_fill 93 = .ok (.invokestatic 56, 3) := by decide +kernel
theorem d_Tt_fill_96 : decode b_Tt_fill 96 = .ok (.iload 7, 2) := by decide +kernel
theorem d_Tt_fill_98 : decode b_Tt_fill 98 = .ok (.iload_n 3, 1) := by decide +kernel
theorem d_Tt_fill_99 : decode b_Tt_fill 99 = .ok (.invokestatic 56, 3) := by decide +kernel
theorem d_Tt_fill_102 : decode b_Tt_fill 102 = .ok (.invokevirtual 80, 3) := by decide +kernel
theorem d_Tt_fill_105 : decode b_Tt_fill 105 = .ok (.iinc 7 1, 3) := by decide +kernel
theorem d_Tt_fill_108 : decode b_Tt_fill 108 = .ok (.goto (-30), 3) := by decide +kernel
theorem d_Tt_fill_111 : decode b_Tt_fill 111 = .ok (.return_, 1) := by decide +kernel
theorem d_Tt_spanOf_0 : decode b_Tt_spanOf 0 = .ok (.iload_n 0, 1) := by decide +kernel
theorem d_Tt_spanOf_1 : decode b_Tt_spanOf 1 = .ok (.bipush 6, 2) := by decide +kernel
theorem d_Tt_spanOf_3 : decode b_Tt_spanOf 3 = .ok (.imul, 1) := by decide +kernel
theorem d_Tt_spanOf_4 : decode b_Tt_spanOf 4 = .ok (.iload_n 1, 1) := by decide +kernel
theorem d_Tt_spanOf_5 : decode b_Tt_spanOf 5 = .ok (.iadd, 1) := by decide +kernel
theorem d_Tt_spanOf_6 : decode b_Tt_spanOf 6 = .ok (.ireturn, 1) := by decide +kernel
theorem d_Tt_addSplit_0 : decode b_Tt_addSplit 0 = .ok (.iconst 0, 1) := by decide +kernel
theorem d_Tt_addSplit_1 : decode b_Tt_addSplit 1 = .ok (.istore 5, 2) := by decide +kernel
theorem d_Tt_addSplit_3 : decode b_Tt_addSplit 3 = .ok (.iload 5, 2) := by decide +kernel
theorem d_Tt_addSplit_5 : decode b_Tt_addSplit 5 = .ok (.aload_n 0, 1) := by decide +kernel
theorem d_Tt_addSplit_6 : decode b_Tt_addSplit 6 = .ok (.getfield 44, 3) := by decide +kernel
theorem d_Tt_addSplit_9 : decode b_Tt_addSplit 9 = .ok (.getfield 60, 3) := by decide +kernel
theorem d_Tt_addSplit_12 : decode b_Tt_addSplit 12 = .ok (.if_icmp .ge 164, 3) := by decide +kernel
theorem d_Tt_addSplit_15 : decode b_Tt_addSplit 15 = .ok (.iconst 0, 1) := by decide +kernel
theorem d_Tt_addSplit_16 : decode b_Tt_addSplit 16 = .ok (.istore 6, 2) := by decide +kernel
theorem d_Tt_addSplit_18 : decode b_Tt_addSplit 18 = .ok (.iload 6, 2) := by decide +kernel
theorem d_Tt_addSplit_20 : decode b_Tt_addSplit 20 = .ok (.aload_n 0, 1) := by decide +kernel
theorem d_Tt_addSplit_21 : decode b_Tt_addSplit 21 = .ok (.getfield 44, 3) := by decide +kernel
theorem d_Tt_addSplit_24 : decode b_Tt_addSplit 24 = .ok (.getfield 60, 3) := by decide +kernel
theorem d_Tt_addSplit_27 : decode b_Tt_addSplit 27 = .ok (.if_icmp .ge 143, 3) := by decide +kernel
theorem d_Tt_addSplit_30 : decode b_Tt_addSplit 30 = .ok (.aload_n 0, 1) := by decide +kernel
theorem d_Tt_addSplit_31 : decode b_Tt_addSplit 31 = .ok (.getfield 44, 3) := by decide +kernel
theorem d_Tt_addSplit_34 : decode b_Tt_addSplit 34 = .ok (.getfield 84, 3) := by decide +kernel
theorem d_Tt_addSplit_37 : decode b_Tt_addSplit 37 = .ok (.iload_n 1, 1) := by decide +kernel
theorem d_Tt_addSplit_38 : decode b_Tt_addSplit 38 = .ok (.aaload, 1) := by decide +kernel
theorem d_Tt_addSplit_39 : decode b_Tt_addSplit 39 = .ok (.iload 5, 2) := by decide +kernel
theorem d_Tt_addSplit_41 : decode b_Tt_addSplit 41 = .ok (.iload 6, 2) := by decide +kernel
theorem d_Tt_addSplit_43 : decode b_Tt_addSplit 43 = .ok (.invokestatic 88, 3) := by decide +kernel
theorem d_Tt_addSplit_46 : decode b_Tt_addSplit 46 = .ok (.iaload, 1) := by decide +kernel
theorem d_Tt_addSplit_47 : decode b_Tt_addSplit 47 = .ok (.i2l, 1) := by decide +kernel
theorem d_Tt_addSplit_48 : decode b_Tt_addSplit 48 = .ok (.lstore 7, 2) := by decide +kernel
theorem d_Tt_addSplit_50 : decode b_Tt_addSplit 50 = .ok (.lload 7, 2) := by decide +kernel
theorem d_Tt_addSplit_52 : decode b_Tt_addSplit 52 = .ok (.lconst 0, 1) := by decide +kernel
theorem d_Tt_addSplit_53 : decode b_Tt_addSplit 53 = .ok (.lcmp, 1) := by decide +kernel
theorem d_Tt_addSplit_54 : decode b_Tt_addSplit 54 = .ok (.ifCond .le 110, 3) := by decide +kernel
theorem d_Tt_addSplit_57 : decode b_Tt_addSplit 57 = .ok (.aload_n 0, 1) := by decide +kernel
theorem d_Tt_addSplit_58 : decode b_Tt_addSplit 58 = .ok (.getfield 13, 3) := by decide +kernel
theorem d_Tt_addSplit_61 : decode b_Tt_addSplit 61 = .ok (.iload_n 1, 1) := by decide +kernel
theorem d_Tt_addSplit_62 : decode b_Tt_addSplit 62 = .ok (.aaload, 1) := by decide +kernel
theorem d_Tt_addSplit_63 : decode b_Tt_addSplit 63 = .ok (.iload_n 2, 1) := by decide +kernel
theorem d_Tt_addSplit_64 : decode b_Tt_addSplit 64 = .ok (.dup2, 1) := by decide +kernel
theorem d_Tt_addSplit_65 : decode b_Tt_addSplit 65 = .ok (.laload, 1) := by decide +kernel
theorem d_Tt_addSplit_66 : decode b_Tt_addSplit 66 = .ok (.lload 7, 2) := by decide +kernel
theorem d_Tt_addSplit_68 : decode b_Tt_addSplit 68 = .ok (.aload_n 0, 1) := by decide +kernel
theorem d_Tt_addSplit_69 : decode b_Tt_addSplit 69 = .ok (.getfield 13, 3) := by decide +kernel
theorem d_Tt_addSplit_72 : decode b_Tt_addSplit 72 = .ok (.iload 5, 2) := by decide +kernel
theorem d_Tt_addSplit_74 : decode b_Tt_addSplit 74 = .ok (.aaload, 1) := by decide +kernel
theorem d_Tt_addSplit_75 : decode b_Tt_addSplit 75 = .ok (.iload_n 3, 1) := by decide +kernel
theorem d_Tt_addSplit_76 : decode b_Tt_addSplit 76 = .ok (.laload, 1) := by decide +kernel
theorem d_Tt_addSplit_77 : decode b_Tt_addSplit 77 = .ok (.lmul, 1) := by decide +kernel
theorem d_Tt_addSplit_78 : decode b_Tt_addSplit 78 = .ok (.aload_n 0, 1) := by decide +kernel
theorem d_Tt_addSplit_79 : decode b_Tt_addSplit 79 = .ok (.getfield 13, 3) := by decide +kernel
theorem d_Tt_addSplit_82 : decode b_Tt_addSplit 82 = .ok (.iload 6, 2) := by decide +kernel
theorem d_Tt_addSplit_84 : decode b_Tt_addSplit 84 = .ok (.aaload, 1) := by decide +kernel
theorem d_Tt_addSplit_85 : decode b_Tt_addSplit 85 = .ok (.iload 4, 2) := by decide +kernel
theorem d_Tt_addSplit_87 : decode b_Tt_addSplit 87 = .ok (.laload, 1) := by decide +kernel
theorem d_Tt_addSplit_88 : decode b_Tt_addSplit 88 = .ok (.lmul, 1) := by decide +kernel
theorem d_Tt_addSplit_89 : decode b_Tt_addSplit 89 = .ok (.ladd, 1) := by decide +kernel
theorem d_Tt_addSplit_90 : decode b_Tt_addSplit 90 = .ok (.lastore, 1) := by decide +kernel
theorem d_Tt_addSplit_91 : decode b_Tt_addSplit 91 = .ok (.aload_n 0, 1) := by decide +kernel
theorem d_Tt_addSplit_92 : decode b_Tt_addSplit 92 = .ok (.getfield 16, 3) := by decide +kernel
theorem d_Tt_addSplit_95 : decode b_Tt_addSplit 95 = .ok (.iload_n 1, 1) := by decide +kernel
theorem d_Tt_addSplit_96 : decode b_Tt_addSplit 96 = .ok (.aaload, 1) := by decide +kernel
theorem d_Tt_addSplit_97 : decode b_Tt_addSplit 97 = .ok (.iload_n 2, 1) := by decide +kernel
theorem d_Tt_addSplit_98 : decode b_Tt_addSplit 98 = .ok (.dup2, 1) := by decide +kernel
theorem d_Tt_addSplit_99 : decode b_Tt_addSplit 99 = .ok (.laload, 1) := by decide +kernel
theorem d_Tt_addSplit_100 : decode b_Tt_addSplit 100 = .ok (.aload_n 0, 1) := by decide +kernel
theorem d_Tt_addSplit_101 : decode b_Tt_addSplit 101 = .ok (.getfield 16, 3) := by decide +kernel
theorem d_Tt_addSplit_104 : decode b_Tt_addSplit 104 = .ok (.iload 5, 2) := by decide +kernel
theorem d_Tt_addSplit_106 : decode b_Tt_addSplit 106 = .ok (.aaload, 1) := by decide +kernel
theorem d_Tt_addSplit_107 : decode b_Tt_addSplit 107 = .ok (.iload_n 3, 1) := by decide +kernel
theorem d_Tt_addSplit_108 : decode b_Tt_addSplit 108 = .ok (.laload, 1) := by decide +kernel
theorem d_Tt_addSplit_109 : decode b_Tt_addSplit 109 = .ok (.aload_n 0, 1) := by decide +kernel
theorem d_Tt_addSplit_110 : decode b_Tt_addSplit 110 = .ok (.getfield 16, 3) := by decide +kernel
theorem d_Tt_addSplit_113 : decode b_Tt_addSplit 113 = .ok (.iload 6, 2) := by decide +kernel
theorem d_Tt_addSplit_115 : decode b_Tt_addSplit 115 = .ok (.aaload, 1) := by decide +kernel
theorem d_Tt_addSplit_116 : decode b_Tt_addSplit 116 = .ok (.iload 4, 2) := by decide +kernel
theorem d_Tt_addSplit_118 : decode b_Tt_addSplit 118 = .ok (.laload, 1) := by decide +kernel
theorem d_Tt_addSplit_119 : decode b_Tt_addSplit 119 = .ok (.lmul, 1) := by decide +kernel
theorem d_Tt_addSplit_120 : decode b_Tt_addSplit 120 = .ok (.ladd, 1) := by decide +kernel
theorem d_Tt_addSplit_121 : decode b_Tt_addSplit 121 = .ok (.lastore, 1) := by decide +kernel
theorem d_Tt_addSplit_122 : decode b_Tt_addSplit 122 = .ok (.aload_n 0, 1) := by decide +kernel
theorem d_Tt_addSplit_123 : decode b_Tt_addSplit 123 = .ok (.getfield 19, 3) := by decide +kernel
theorem d_Tt_addSplit_126 : decode b_Tt_addSplit 126 = .ok (.iload_n 1, 1) := by decide +kernel
theorem d_Tt_addSplit_127 : decode b_Tt_addSplit 127 = .ok (.aaload, 1) := by decide +kernel
theorem d_Tt_addSplit_128 : decode b_Tt_addSplit 128 = .ok (.iload_n 2, 1) := by decide +kernel
theorem d_Tt_addSplit_129 : decode b_Tt_addSplit 129 = .ok (.aload_n 0, 1) := by decide +kernel
theorem d_Tt_addSplit_130 : decode b_Tt_addSplit 130 = .ok (.getfield 19, 3) := by decide +kernel
theorem d_Tt_addSplit_133 : decode b_Tt_addSplit 133 = .ok (.iload_n 1, 1) := by decide +kernel
theorem d_Tt_addSplit_134 : decode b_Tt_addSplit 134 = .ok (.aaload, 1) := by decide +kernel
theorem d_Tt_addSplit_135 : decode b_Tt_addSplit 135 = .ok (.iload_n 2, 1) := by decide +kernel
theorem d_Tt_addSplit_136 : decode b_Tt_addSplit 136 = .ok (.laload, 1) := by decide +kernel
theorem d_Tt_addSplit_137 : decode b_Tt_addSplit 137 = .ok (.lload 7, 2) := by decide +kernel
theorem d_Tt_addSplit_139 : decode b_Tt_addSplit 139 = .ok (.aload_n 0, 1) := by decide +kernel
theorem d_Tt_addSplit_140 : decode b_Tt_addSplit 140 = .ok (.getfield 19, 3) := by decide +kernel
theorem d_Tt_addSplit_143 : decode b_Tt_addSplit 143 = .ok (.iload 5, 2) := by decide +kernel
theorem d_Tt_addSplit_145 : decode b_Tt_addSplit 145 = .ok (.aaload, 1) := by decide +kernel
theorem d_Tt_addSplit_146 : decode b_Tt_addSplit 146 = .ok (.iload_n 3, 1) := by decide +kernel
theorem d_Tt_addSplit_147 : decode b_Tt_addSplit 147 = .ok (.laload, 1) := by decide +kernel
theorem d_Tt_addSplit_148 : decode b_Tt_addSplit 148 = .ok (.lmul, 1) := by decide +kernel
theorem d_Tt_addSplit_149 : decode b_Tt_addSplit 149 = .ok (.aload_n 0, 1) := by decide +kernel
theorem d_Tt_addSplit_150 : decode b_Tt_addSplit 150 = .ok (.getfield 19, 3) := by decide +kernel
theorem d_Tt_addSplit_153 : decode b_Tt_addSplit 153 = .ok (.iload 6, 2) := by decide +kernel
theorem d_Tt_addSplit_155 : decode b_Tt_addSplit 155 = .ok (.aaload, 1) := by decide +kernel
theorem d_Tt_addSplit_156 : decode b_Tt_addSplit 156 = .ok (.iload 4, 2) := by decide +kernel
theorem d_Tt_addSplit_158 : decode b_Tt_addSplit 158 = .ok (.laload, 1) := by decide +kernel
theorem d_Tt_addSplit_159 : decode b_Tt_addSplit 159 = .ok (.lmul, 1) := by decide +kernel
theorem d_Tt_addSplit_160 : decode b_Tt_addSplit 160 = .ok (.invokestatic 91, 3) := by decide +kernel
theorem d_Tt_addSplit_163 : decode b_Tt_addSplit 163 = .ok (.lastore, 1) := by decide +kernel
theorem d_Tt_addSplit_164 : decode b_Tt_addSplit 164 = .ok (.iinc 6 1, 3) := by decide +kernel
theorem d_Tt_addSplit_167 : decode b_Tt_addSplit 167 = .ok (.goto (-149), 3) := by decide +kernel
theorem d_Tt_addSplit_170 : decode b_Tt_addSplit 170 = .ok (.iinc 5 1, 3) := by decide +kernel
theorem d_Tt_addSplit_173 : decode b_Tt_addSplit 173 = .ok (.goto (-170), 3) := by decide +kernel
theorem d_Tt_addSplit_176 : decode b_Tt_addSplit 176 = .ok (.return_, 1) := by decide +kernel
theorem d_Tt_countOfAll_0 : decode b_Tt_countOfAll 0 = .ok (.aload_n 0, 1) := by decide +kernel
theorem d_Tt_countOfAll_1 : decode b_Tt_countOfAll 1 = .ok (.invokevirtual 48, 3) := by decide +kernel
theorem d_Tt_countOfAll_4 : decode b_Tt_countOfAll 4 = .ok (.aload_n 0, 1) := by decide +kernel
theorem d_Tt_countOfAll_5 : decode b_Tt_countOfAll 5 = .ok (.getfield 40, 3) := by decide +kernel
theorem d_Tt_countOfAll_8 : decode b_Tt_countOfAll 8 = .ok (.getfield 51, 3) := by decide +kernel
theorem d_Tt_countOfAll_11 : decode b_Tt_countOfAll 11 = .ok (.ifCond .le 26, 3) := by decide +kernel
theorem d_Tt_countOfAll_14 : decode b_Tt_countOfAll 14 = .ok (.aload_n 0, 1) := by decide +kernel
theorem d_Tt_countOfAll_15 : decode b_Tt_countOfAll 15 = .ok (.getfield 16, 3) := by decide +kernel
theorem d_Tt_countOfAll_18 : decode b_Tt_countOfAll 18 = .ok (.iload_n 1, 1) := by decide +kernel
theorem d_Tt_countOfAll_19 : decode b_Tt_countOfAll 19 = .ok (.aaload, 1) := by decide +kernel
theorem d_Tt_countOfAll_20 : decode b_Tt_countOfAll 20 = .ok (.iconst 0, 1) := by decide +kernel
theorem d_Tt_countOfAll_21 : decode b_Tt_countOfAll 21 = .ok (.aload_n 0, 1) := by decide +kernel
theorem d_Tt_countOfAll_22 : decode b_Tt_countOfAll 22 = .ok (.getfield 40, 3) := by decide +kernel
theorem d_Tt_countOfAll_25 : decode b_Tt_countOfAll 25 = .ok (.getfield 51, 3) := by decide +kernel
theorem d_Tt_countOfAll_28 : decode b_Tt_countOfAll 28 = .ok (.iconst 1, 1) := by decide +kernel
theorem d_Tt_countOfAll_29 : decode b_Tt_countOfAll 29 = .ok (.isub, 1) := by decide +kernel
theorem d_Tt_countOfAll_30 : decode b_Tt_countOfAll 30 = .ok (.invokestatic 56, 3) := by decide +kernel
theorem d_Tt_countOfAll_33 : decode b_Tt_countOfAll 33 = .ok (.laload, 1) := by decide +kernel
theorem d_Tt_countOfAll_34 : decode b_Tt_countOfAll 34 = .ok (.goto 4, 3) := by decide +kernel
theorem d_Tt_countOfAll_37 : decode b_Tt_countOfAll 37 = .ok (.lconst 0, 1) := by decide +kernel
theorem d_Tt_countOfAll_38 : decode b_Tt_countOfAll 38 = .ok (.lreturn, 1) := by decide +kernel
theorem d_Tt_bestOfAll_0 : decode b_Tt_bestOfAll 0 = .ok (.aload_n 0, 1) := by decide +kernel
theorem d_Tt_bestOfAll_1 : decode b_Tt_bestOfAll 1 = .ok (.invokevirtual 48, 3) := by decide +kernel
theorem d_Tt_bestOfAll_4 : decode b_Tt_bestOfAll 4 = .ok (.aload_n 0, 1) := by decide +kernel
theorem d_Tt_bestOfAll_5 : decode b_Tt_bestOfAll 5 = .ok (.getfield 40, 3) := by decide +kernel
theorem d_Tt_bestOfAll_8 : decode b_Tt_bestOfAll 8 = .ok (.getfield 51, 3) := by decide +kernel
theorem d_Tt_bestOfAll_11 : decode b_Tt_bestOfAll 11 = .ok (.ifCond .le 26, 3) := by decide +kernel
theorem d_Tt_bestOfAll_14 : decode b_Tt_bestOfAll 14 = .ok (.aload_n 0, 1) := by decide +kernel
theorem d_Tt_bestOfAll_15 : decode b_Tt_bestOfAll 15 = .ok (.getfield 19, 3) := by decide +kernel
theorem d_Tt_bestOfAll_18 : decode b_Tt_bestOfAll 18 = .ok (.iload_n 1, 1) := by decide +kernel
theorem d_Tt_bestOfAll_19 : decode b_Tt_bestOfAll 19 = .ok (.aaload, 1) := by decide +kernel
theorem d_Tt_bestOfAll_20 : decode b_Tt_bestOfAll 20 = .ok (.iconst 0, 1) := by decide +kernel
theorem d_Tt_bestOfAll_21 : decode b_Tt_bestOfAll 21 = .ok (.aload_n 0, 1) := by decide +kernel
theorem d_Tt_bestOfAll_22 : decode b_Tt_bestOfAll 22 = .ok (.getfield 40, 3) := by decide +kernel
theorem d_Tt_bestOfAll_25 : decode b_Tt_bestOfAll 25 = .ok (.getfield 51, 3) := by decide +kernel
theorem d_Tt_bestOfAll_28 : decode b_Tt_bestOfAll 28 = .ok (.iconst 1, 1) := by decide +kernel
theorem d_Tt_bestOfAll_29 : decode b_Tt_bestOfAll 29 = .ok (.isub, 1) := by decide +kernel
theorem d_Tt_bestOfAll_30 : decode b_Tt_bestOfAll 30 = .ok (.invokestatic 56, 3) := by decide +kernel
theorem d_Tt_bestOfAll_33 : decode b_Tt_bestOfAll 33 = .ok (.laload, 1) := by decide +kernel
theorem d_Tt_bestOfAll_34 : decode b_Tt_bestOfAll 34 = .ok (.goto 4, 3) := by decide +kernel
theorem d_Tt_bestOfAll_37 : decode b_Tt_bestOfAll 37 = .ok (.lconst 0, 1) := by decide +kernel
theorem d_Tt_bestOfAll_38 : decode b_Tt_bestOfAll 38 = .ok (.lreturn, 1) := by decide +kernel
theorem d_Tt_bestTells_0 : decode b_Tt_bestTells 0 = .ok (.aload_n 0, 1) := by decide +kernel
theorem d_Tt_bestTells_1 : decode b_Tt_bestTells 1 = .ok (.invokevirtual 48, 3) := by decide +kernel
theorem d_Tt_bestTells_4 : decode b_Tt_bestTells 4 = .ok (.aload_n 0, 1) := by decide +kernel
theorem d_Tt_bestTells_5 : decode b_Tt_bestTells 5 = .ok (.iconst 0, 1) := by decide +kernel
theorem d_Tt_bestTells_6 : decode b_Tt_bestTells 6 = .ok (.putfield 32, 3) := by decide +kernel
theorem d_Tt_bestTells_9 : decode b_Tt_bestTells 9 = .ok (.aload_n 0, 1) := by decide +kernel
theorem d_Tt_bestTells_10 : decode b_Tt_bestTells 10 = .ok (.iload_n 1, 1) := by decide +kernel
theorem d_Tt_bestTells_11 : decode b_Tt_bestTells 11 = .ok (.iconst 0, 1) := by decide +kernel
theorem d_Tt_bestTells_12 : decode b_Tt_bestTells 12 = .ok (.aload_n 0, 1) := by decide +kernel
theorem d_Tt_bestTells_13 : decode b_Tt_bestTells 13 = .ok (.getfield 40, 3) := by decide +kernel
theorem d_Tt_bestTells_16 : decode b_Tt_bestTells 16 = .ok (.getfield 51, 3) := by decide +kernel
theorem d_Tt_bestTells_19 : decode b_Tt_bestTells 19 = .ok (.iconst 1, 1) := by decide +kernel
theorem d_Tt_bestTells_20 : decode b_Tt_bestTells 20 = .ok (.isub, 1) := by decide +kernel
theorem d_Tt_bestTells_21 : decode b_Tt_bestTells 21 = .ok (.invokestatic 56, 3) := by decide +kernel
theorem d_Tt_bestTells_24 : decode b_Tt_bestTells 24 = .ok (.invokevirtual 94, 3) := by decide +kernel
theorem d_Tt_bestTells_27 : decode b_Tt_bestTells 27 = .ok (.iconst (-1), 1) := by decide +kernel
theorem d_Tt_bestTells_28 : decode b_Tt_bestTells 28 = .ok (.istore_n 3, 1) := by decide +kernel
theorem d_Tt_bestTells_29 : decode b_Tt_bestTells 29 = .ok (.iconst 0, 1) := by decide +kernel
theorem d_Tt_bestTells_30 : decode b_Tt_bestTells 30 = .ok (.istore 4, 2) := by decide +kernel
theorem d_Tt_bestTells_32 : decode b_Tt_bestTells 32 = .ok (.iload 4, 2) := by decide +kernel
theorem d_Tt_bestTells_34 : decode b_Tt_bestTells 34 = .ok (.iload_n 2, 1) := by decide +kernel
theorem d_Tt_bestTells_35 : decode b_Tt_bestTells 35 = .ok (.if_icmp .gt 49, 3) := by decide +kernel
theorem d_Tt_bestTells_38 : decode b_Tt_bestTells 38 = .ok (.aload_n 0, 1) := by decide +kernel
theorem d_Tt_bestTells_39 : decode b_Tt_bestTells 39 = .ok (.getfield 32, 3) := by decide +kernel
theorem d_Tt_bestTells_42 : decode b_Tt_bestTells 42 = .ok (.ifCond .le 42, 3) := by decide +kernel
theorem d_Tt_bestTells_45 : decode b_Tt_bestTells 45 = .ok (.aload_n 0, 1) := by decide +kernel
theorem d_Tt_bestTells_46 : decode b_Tt_bestTells 46 = .ok (.dup, 1) := by decide +kernel
theorem d_Tt_bestTells_47 : decode b_Tt_bestTells 47 = .ok (.getfield 32, 3) := by decide +kernel
theorem d_Tt_bestTells_50 : decode b_Tt_bestTells 50 = .ok (.iconst 1, 1) := by decide +kernel
theorem d_Tt_bestTells_51 : decode b_Tt_bestTells 51 = .ok (.isub, 1) := by decide +kernel
theorem d_Tt_bestTells_52 : decode b_Tt_bestTells 52 = .ok (.putfield 32, 3) := by decide +kernel
theorem d_Tt_bestTells_55 : decode b_Tt_bestTells 55 = .ok (.aload_n 0, 1) := by decide +kernel
theorem d_Tt_bestTells_56 : decode b_Tt_bestTells 56 = .ok (.aload_n 0, 1) := by decide +kernel
theorem d_Tt_bestTells_57 : decode b_Tt_bestTells 57 = .ok (.getfield 25, 3) := by decide +kernel
theorem d_Tt_bestTells_60 : decode b_Tt_bestTells 60 = .ok (.aload_n 0, 1) := by decide +kernel
theorem d_Tt_bestTells_61 : decode b_Tt_bestTells 61 = .ok (.getfield 32, 3) := by decide +kernel
theorem d_Tt_bestTells_64 : decode b_Tt_bestTells 64 = .ok (.iaload, 1) := by decide +kernel
theorem d_Tt_bestTells_65 : decode b_Tt_bestTells 65 = .ok (.aload_n 0, 1) := by decide +kernel
theorem d_Tt_bestTells_66 : decode b_Tt_bestTells 66 = .ok (.getfield 29, 3) := by decide +kernel
theorem d_Tt_bestTells_69 : decode b_Tt_bestTells 69 = .ok (.aload_n 0, 1) := by decide +kernel
theorem d_Tt_bestTells_70 : decode b_Tt_bestTells 70 = .ok (.getfield 32, 3) := by decide +kernel
theorem d_Tt_bestTells_73 : decode b_Tt_bestTells 73 = .ok (.iaload, 1) := by decide +kernel
theorem d_Tt_bestTells_74 : decode b_Tt_bestTells 74 = .ok (.invokevirtual 98, 3) := by decide +kernel
theorem d_Tt_bestTells_77 : decode b_Tt_bestTells 77 = .ok (.istore_n 3, 1) := by decide +kernel
theorem d_Tt_bestTells_78 : decode b_Tt_bestTells 78 = .ok (.iinc 4 1, 3) := by decide +kernel
theorem d_Tt_bestTells_81 : decode b_Tt_bestTells 81 = .ok (.goto (-49), 3) := by decide +kernel
theorem d_Tt_bestTells_84 : decode b_Tt_bestTells 84 = .ok (.iload_n 3, 1) := by decide +kernel
theorem d_Tt_bestTells_85 : decode b_Tt_bestTells 85 = .ok (.ireturn, 1) := by decide +kernel
theorem d_Tt_push_0 : decode b_Tt_push 0 = .ok (.aload_n 0, 1) := by decide +kernel
theorem d_Tt_push_1 : decode b_Tt_push 1 = .ok (.getfield 32, 3) := by decide +kernel
theorem d_Tt_push_4 : decode b_Tt_push 4 = .ok (.bipush 6, 2) := by decide +kernel
theorem d_Tt_push_6 : decode b_Tt_push 6 = .ok (.if_icmp .gt 33, 3) := by decide +kernel
theorem d_Tt_push_9 : decode b_Tt_push 9 = .ok (.aload_n 0, 1) := by decide +kernel
theorem d_Tt_push_10 : decode b_Tt_push 10 = .ok (.getfield 25, 3) := by decide +kernel
theorem d_Tt_push_13 : decode b_Tt_push 13 = .ok (.aload_n 0, 1) := by decide +kernel
theorem d_Tt_push_14 : decode b_Tt_push 14 = .ok (.getfield 32, 3) := by decide +kernel
theorem d_Tt_push_17 : decode b_Tt_push 17 = .ok (.iload_n 1, 1) := by decide +kernel
theorem d_Tt_push_18 : decode b_Tt_push 18 = .ok (.iastore, 1) := by decide +kernel
theorem d_Tt_push_19 : decode b_Tt_push 19 = .ok (.aload_n 0, 1) := by decide +kernel
theorem d_Tt_push_20 : decode b_Tt_push 20 = .ok (.getfield 29, 3) := by decide +kernel
theorem d_Tt_push_23 : decode b_Tt_push 23 = .ok (.aload_n 0, 1) := by decide +kernel
theorem d_Tt_push_24 : decode b_Tt_push 24 = .ok (.getfield 32, 3) := by decide +kernel
theorem d_Tt_push_27 : decode b_Tt_push 27 = .ok (.iload_n 2, 1) := by decide +kernel
theorem d_Tt_push_28 : decode b_Tt_push 28 = .ok (.iastore, 1) := by decide +kernel
theorem d_Tt_push_29 : decode b_Tt_push 29 = .ok (.aload_n 0, 1) := by decide +kernel
theorem d_Tt_push_30 : decode b_Tt_push 30 = .ok (.dup, 1) := by decide +kernel
theorem d_Tt_push_31 : decode b_Tt_push 31 = .ok (.getfield 32, 3) := by decide +kernel
theorem d_Tt_push_34 : decode b_Tt_push 34 = .ok (.iconst 1, 1) := by decide +kernel
theorem d_Tt_push_35 : decode b_Tt_push 35 = .ok (.iadd, 1) := by decide +kernel
theorem d_Tt_push_36 : decode b_Tt_push 36 = .ok (.putfield 32, 3) := by decide +kernel
theorem d_Tt_push_39 : decode b_Tt_push 39 = .ok (.return_, 1) := by decide +kernel
theorem d_Tt_tellNode_0 : decode b_Tt_tellNode 0 = .ok (.iload_n 2, 1) := by decide +kernel
theorem d_Tt_tellNode_1 : decode b_Tt_tellNode 1 = .ok (.bipush 6, 2) := by decide +kernel
theorem d_Tt_tellNode_3 : decode b_Tt_tellNode 3 = .ok (.idiv, 1) := by decide +kernel
theorem d_Tt_tellNode_4 : decode b_Tt_tellNode 4 = .ok (.istore_n 3, 1) := by decide +kernel
theorem d_Tt_tellNode_5 : decode b_Tt_tellNode 5 = .ok (.iload_n 2, 1) := by decide +kernel
theorem d_Tt_tellNode_6 : decode b_Tt_tellNode 6 = .ok (.bipush 6, 2) := by decide +kernel
theorem d_Tt_tellNode_8 : decode b_Tt_tellNode 8 = .ok (.irem, 1) := by decide +kernel
theorem d_Tt_tellNode_9 : decode b_Tt_tellNode 9 = .ok (.istore 4, 2) := by decide +kernel
theorem d_Tt_tellNode_11 : decode b_Tt_tellNode 11 = .ok (.iload_n 3, 1) := by decide +kernel
theorem d_Tt_tellNode_12 : decode b_Tt_tellNode 12 = .ok (.iconst 1, 1) := by decide +kernel
theorem d_Tt_tellNode_13 : decode b_Tt_tellNode 13 = .ok (.iadd, 1) := by decide +kernel
theorem d_Tt_tellNode_14 : decode b_Tt_tellNode 14 = .ok (.istore 5, 2) := by decide +kernel
theorem d_Tt_tellNode_16 : decode b_Tt_tellNode 16 = .ok (.iload 5, 2) := by decide +kernel
theorem d_Tt_tellNode_18 : decode b_Tt_tellNode 18 = .ok (.iload 4, 2) := by decide +kernel
theorem d_Tt_tellNode_20 : decode b_Tt_tellNode 20 = .ok (.if_icmp .gt 88, 3) := by decide +kernel
theorem d_Tt_tellNode_23 : decode b_Tt_tellNode 23 = .ok (.iload_n 3, 1) := by decide +kernel
theorem d_Tt_tellNode_24 : decode b_Tt_tellNode 24 = .ok (.iload 5, 2) := by decide +kernel
theorem d_Tt_tellNode_26 : decode b_Tt_tellNode 26 = .ok (.iconst 1, 1) := by decide +kernel
theorem d_Tt_tellNode_27 : decode b_Tt_tellNode 27 = .ok (.isub, 1) := by decide +kernel
theorem d_Tt_tellNode_28 : decode b_Tt_tellNode 28 = .ok (.invokestatic 56, 3) := by decide +kernel
theorem d_Tt_tellNode_31 : decode b_Tt_tellNode 31 = .ok (.istore 6, 2) := by decide +kernel
theorem d_Tt_tellNode_33 : decode b_Tt_tellNode 33 = .ok (.iload 5, 2) := by decide +kernel
theorem d_Tt_tellNode_35 : decode b_Tt_tellNode 35 = .ok (.iload 4, 2) := by decide +kernel
theorem d_Tt_tellNode_37 : decode b_Tt_tellNode 37 = .ok (.invokestatic 56, 3) := by decide +kernel
theorem d_Tt_tellNode_40 : decode b_Tt_tellNode 40 = .ok (.istore 7, 2) := by decide +kernel
theorem d_Tt_tellNode_42 : decode b_Tt_tellNode 42 = .ok (.aload_n 0, 1) := by decide +kernel
theorem d_Tt_tellNode_43 : decode b_Tt_tellNode 43 = .ok (.iload_n 1, 1) := by decide +kernel
theorem d_Tt_tellNode_44 : decode b_Tt_tellNode 44 = .ok (.iload_n 2, 1) := by decide +kernel
theorem d_Tt_tellNode_45 : decode b_Tt_tellNode 45 = .ok (.iload 6, 2) := by decide +kernel
theorem d_Tt_tellNode_47 : decode b_Tt_tellNode 47 = .ok (.iload 7, 2) := by decide +kernel
theorem d_Tt_tellNode_49 : decode b_Tt_tellNode 49 = .ok (.invokevirtual 101, 3) := by decide +kernel
theorem d_Tt_tellNode_52 : decode b_Tt_tellNode 52 = .ok (.istore 8, 2) := by decide +kernel
theorem d_Tt_tellNode_54 : decode b_Tt_tellNode 54 = .ok (.iload 8, 2) := by decide +kernel
theorem d_Tt_tellNode_56 : decode b_Tt_tellNode 56 = .ok (.ifCond .lt 46, 3) := by decide +kernel
theorem d_Tt_tellNode_59 : decode b_Tt_tellNode 59 = .ok (.iload 8, 2) := by decide +kernel
theorem d_Tt_tellNode_61 : decode b_Tt_tellNode 61 = .ok (.iconst 4, 1) := by decide +kernel
theorem d_Tt_tellNode_62 : decode b_Tt_tellNode 62 = .ok (.idiv, 1) := by decide +kernel
theorem d_Tt_tellNode_63 : decode b_Tt_tellNode 63 = .ok (.istore 9, 2) := by decide +kernel
theorem d_Tt_tellNode_65 : decode b_Tt_tellNode 65 = .ok (.iload 8, 2) := by decide +kernel
theorem d_Tt_tellNode_67 : decode b_Tt_tellNode 67 = .ok (.iconst 4, 1) := by decide +kernel
theorem d_Tt_tellNode_68 : decode b_Tt_tellNode 68 = .ok (.irem, 1) := by decide +kernel
theorem d_Tt_tellNode_69 : decode b_Tt_tellNode 69 = .ok (.istore 10, 2) := by decide +kernel
theorem d_Tt_tellNode_71 : decode b_Tt_tellNode 71 = .ok (.aload_n 0, 1) := by decide +kernel
theorem d_Tt_tellNode_72 : decode b_Tt_tellNode 72 = .ok (.iload 10, 2) := by decide +kernel
theorem d_Tt_tellNode_74 : decode b_Tt_tellNode 74 = .ok (.iload 7, 2) := by decide +kernel
theorem d_Tt_tellNode_76 : decode b_Tt_tellNode 76 = .ok (.invokevirtual 94, 3) := by decide +kernel
theorem d_Tt_tellNode_79 : decode b_Tt_tellNode 79 = .ok (.aload_n 0, 1) := by decide +kernel
theorem d_Tt_tellNode_80 : decode b_Tt_tellNode 80 = .ok (.iload 9, 2) := by decide +kernel
theorem d_Tt_tellNode_82 : decode b_Tt_tellNode 82 = .ok (.iload 6, 2) := by decide +kernel
theorem d_Tt_tellNode_84 : decode b_Tt_tellNode 84 = .ok (.invokevirtual 94, 3) := by decide +kernel
theorem d_Tt_tellNode_87 : decode b_Tt_tellNode 87 = .ok (.bipush 100, 2) := by decide +kernel
theorem d_Tt_tellNode_89 : decode b_Tt_tellNode 89 = .ok (.iload 5, 2) := by decide +kernel
theorem d_Tt_tellNode_91 : decode b_Tt_tellNode 91 = .ok (.imul, 1) := by decide +kernel
theorem d_Tt_tellNode_92 : decode b_Tt_tellNode 92 = .ok (.bipush 10, 2) := by decide +kernel
theorem d_Tt_tellNode_94 : decode b_Tt_tellNode 94 = .ok (.iload 9, 2) := by decide +kernel
theorem d_Tt_tellNode_96 : decode b_Tt_tellNode 96 = .ok (.imul, 1) := by decide +kernel
theorem d_Tt_tellNode_97 : decode b_Tt_tellNode 97 = .ok (.iadd, 1) := by decide +kernel
theorem d_Tt_tellNode_98 : decode b_Tt_tellNode 98 = .ok (.iload 10, 2) := by decide +kernel
theorem d_Tt_tellNode_100 : decode b_Tt_tellNode 100 = .ok (.iadd, 1) := by decide +kernel
theorem d_Tt_tellNode_101 : decode b_Tt_tellNode 101 = .ok (.ireturn, 1) := by decide +kernel
theorem d_Tt_tellNode_102 : decode b_Tt_tellNode 102 = .ok (.iinc 5 1, 3) := by decide +kernel
theorem d_Tt_tellNode_105 : decode b_Tt_tellNode 105 = .ok (.goto (-89), 3) := by decide +kernel
theorem d_Tt_tellNode_108 : decode b_Tt_tellNode 108 = .ok (.iconst 0, 1) := by decide +kernel
theorem d_Tt_tellNode_109 : decode b_Tt_tellNode 109 = .ok (.ireturn, 1) := by decide +kernel
theorem d_Tt_bestParts_0 : decode b_Tt_bestParts 0 = .ok (.iconst 0, 1) := by decide +kernel
theorem d_Tt_bestParts_1 : decode b_Tt_bestParts 1 = .ok (.istore 5, 2) := by decide +kernel
theorem d_Tt_bestParts_3 : decode b_Tt_bestParts 3 = .ok (.iload 5, 2) := by decide +kernel
theorem d_Tt_bestParts_5 : decode b_Tt_bestParts 5 = .ok (.aload_n 0, 1) := by decide +kernel
theorem d_Tt_bestParts_6 : decode b_Tt_bestParts 6 = .ok (.getfield 44, 3) := by decide +kernel
theorem d_Tt_bestParts_9 : decode b_Tt_bestParts 9 = .ok (.getfield 60, 3) := by decide +kernel
theorem d_Tt_bestParts_12 : decode b_Tt_bestParts 12 = .ok (.if_icmp .ge 93, 3) := by decide +kernel
theorem d_Tt_bestParts_15 : decode b_Tt_bestParts 15 = .ok (.iconst 0, 1) := by decide +kernel
theorem d_Tt_bestParts_16 : decode b_Tt_bestParts 16 = .ok (.istore 6, 2) := by decide +kernel
theorem d_Tt_bestParts_18 : decode b_Tt_bestParts 18 = .ok (.iload 6, 2) := by decide +kernel
theorem d_Tt_bestParts_20 : decode b_Tt_bestParts 20 = .ok (.aload_n 0, 1) := by decide +kernel
theorem d_Tt_bestParts_21 : decode b_Tt_bestParts 21 = .ok (.getfield 44, 3) := by decide +kernel
theorem d_Tt_bestParts_24 : decode b_Tt_bestParts 24 = .ok (.getfield 60, 3) := by decide +kernel
theorem d_Tt_bestParts_27 : decode b_Tt_bestParts 27 = .ok (.if_icmp .ge 72, 3) := by decide +kernel
theorem d_Tt_bestParts_30 : decode b_Tt_bestParts 30 = .ok (.aload_n 0, 1) := by decide +kernel
theorem d_Tt_bestParts_31 : decode b_Tt_bestParts 31 = .ok (.getfield 44, 3) := by decide +kernel
theorem d_Tt_bestParts_34 : decode b_Tt_bestParts 34 = .ok (.getfield 84, 3) := by decide +kernel
theorem d_Tt_bestParts_37 : decode b_Tt_bestParts 37 = .ok (.iload_n 1, 1) := by decide +kernel
theorem d_Tt_bestParts_38 : decode b_Tt_bestParts 38 = .ok (.aaload, 1) := by decide +kernel
theorem d_Tt_bestParts_39 : decode b_Tt_bestParts 39 = .ok (.iload 5, 2) := by decide +kernel
theorem d_Tt_bestParts_41 : decode b_Tt_bestParts 41 = .ok (.iload 6, 2) := by decide +kernel
theorem d_Tt_bestParts_43 : decode b_Tt_bestParts 43 = .ok (.invokestatic 88, 3) := by decide +kernel
theorem d_Tt_bestParts_46 : decode b_Tt_bestParts 46 = .ok (.iaload, 1) := by decide +kernel
theorem d_Tt_bestParts_47 : decode b_Tt_bestParts 47 = .ok (.i2l, 1) := by decide +kernel
theorem d_Tt_bestParts_48 : decode b_Tt_bestParts 48 = .ok (.lstore 7, 2) := by decide +kernel
theorem d_Tt_bestParts_50 : decode b_Tt_bestParts 50 = .ok (.lload 7, 2) := by decide +kernel
theorem d_Tt_bestParts_52 : decode b_Tt_bestParts 52 = .ok (.aload_n 0, 1) := by decide +kernel
theorem d_Tt_bestParts_53 : decode b_Tt_bestParts 53 = .ok (.getfield 19, 3) := by decide +kernel
theorem d_Tt_bestParts_56 : decode b_Tt_bestParts 56 = .ok (.iload 5, 2) := by decide +kernel
theorem d_Tt_bestParts_58 : decode b_Tt_bestParts 58 = .ok (.aaload, 1) := by decide +kernel
theorem d_Tt_bestParts_59 : decode b_Tt_bestParts 59 = .ok (.iload_n 3, 1) := by decide +kernel
theorem d_Tt_bestParts_60 : decode b_Tt_bestParts 60 = .ok (.laload, 1) := by decide +kernel
theorem d_Tt_bestParts_61 : decode b_Tt_bestParts 61 = .ok (.lmul, 1) := by decide +kernel
theorem d_Tt_bestParts_62 : decode b_Tt_bestParts 62 = .ok (.aload_n 0, 1) := by decide +kernel
theorem d_Tt_bestParts_63 : decode b_Tt_bestParts 63 = .ok (.getfield 19, 3) := by decide +kernel
theorem d_Tt_bestParts_66 : decode b_Tt_bestParts 66 = .ok (.iload 6, 2) := by decide +kernel
theorem d_Tt_bestParts_68 : decode b_Tt_bestParts 68 = .ok (.aaload, 1) := by decide +kernel
theorem d_Tt_bestParts_69 : decode b_Tt_bestParts 69 = .ok (.iload 4, 2) := by decide +kernel
theorem d_Tt_bestParts_71 : decode b_Tt_bestParts 71 = .ok (.laload, 1) := by decide +kernel
theorem d_Tt_bestParts_72 : decode b_Tt_bestParts 72 = .ok (.lmul, 1) := by decide +kernel
theorem d_Tt_bestParts_73 : decode b_Tt_bestParts 73 = .ok (.aload_n 0, 1) := by decide +kernel
theorem d_Tt_bestParts_74 : decode b_Tt_bestParts 74 = .ok (.getfield 19, 3) := by decide +kernel
theorem d_Tt_bestParts_77 : decode b_Tt_bestParts 77 = .ok (.iload_n 1, 1) := by decide +kernel
theorem d_Tt_bestParts_78 : decode b_Tt_bestParts 78 = .ok (.aaload, 1) := by decide +kernel
theorem d_Tt_bestParts_79 : decode b_Tt_bestParts 79 = .ok (.iload_n 2, 1) := by decide +kernel
theorem d_Tt_bestParts_80 : decode b_Tt_bestParts 80 = .ok (.laload, 1) := by decide +kernel
theorem d_Tt_bestParts_81 : decode b_Tt_bestParts 81 = .ok (.lcmp, 1) := by decide +kernel
theorem d_Tt_bestParts_82 : decode b_Tt_bestParts 82 = .ok (.ifCond .ne 11, 3) := by decide +kernel
theorem d_Tt_bestParts_85 : decode b_Tt_bestParts 85 = .ok (.iload 5, 2) := by decide +kernel
theorem d_Tt_bestParts_87 : decode b_Tt_bestParts 87 = .ok (.iload 6, 2) := by decide +kernel
theorem d_Tt_bestParts_89 : decode b_Tt_bestParts 89 = .ok (.invokestatic 88, 3) := by decide +kernel
theorem d_Tt_bestParts_92 : decode b_Tt_bestParts 92 = .ok (.ireturn, 1) := by decide +kernel
theorem d_Tt_bestParts_93 : decode b_Tt_bestParts 93 = .ok (.iinc 6 1, 3) := by decide +kernel
theorem d_Tt_bestParts_96 : decode b_Tt_bestParts 96 = .ok (.goto (-78), 3) := by decide +kernel
theorem d_Tt_bestParts_99 : decode b_Tt_bestParts 99 = .ok (.iinc 5 1, 3) := by decide +kernel
theorem d_Tt_bestParts_102 : decode b_Tt_bestParts 102 = .ok (.goto (-99), 3) := by decide +kernel
theorem d_Tt_bestParts_105 : decode b_Tt_bestParts 105 = .ok (.iconst (-1), 1) := by decide +kernel
theorem d_Tt_bestParts_106 : decode b_Tt_bestParts 106 = .ok (.ireturn, 1) := by decide +kernel
theorem d_Tt_sumWith_0 : decode b_Tt_sumWith 0 = .ok (.aload_n 0, 1) := by decide +kernel
theorem d_Tt_sumWith_1 : decode b_Tt_sumWith 1 = .ok (.invokevirtual 48, 3) := by decide +kernel
theorem d_Tt_sumWith_4 : decode b_Tt_sumWith 4 = .ok (.iload_n 3, 1) := by decide +kernel
theorem d_Tt_sumWith_5 : decode b_Tt_sumWith 5 = .ok (.istore 5, 2) := by decide +kernel
theorem d_Tt_sumWith_7 : decode b_Tt_sumWith 7 = .ok (.iload 5, 2) := by decide +kernel
theorem d_Tt_sumWith_9 : decode b_Tt_sumWith 9 = .ok (.ifCond .lt 121, 3) := by decide +kernel
theorem d_Tt_sumWith_12 : decode b_Tt_sumWith 12 = .ok (.iload 4, 2) := by decide +kernel
theorem d_Tt_sumWith_14 : decode b_Tt_sumWith 14 = .ok (.istore 6, 2) := by decide +kernel
theorem d_Tt_sumWith_16 : decode b_Tt_sumWith 16 = .ok (.iload 6, 2) := by decide +kernel
theorem d_Tt_sumWith_18 : decode b_Tt_sumWith 18 = .ok (.aload_n 0, 1) := by decide +kernel
theorem d_Tt_sumWith_19 : decode b_Tt_sumWith 19 = .ok (.getfield 40, 3) := by decide +kernel
theorem d_Tt_sumWith_22 : decode b_Tt_sumWith 22 = .ok (.getfield 51, 3) := by decide +kernel
theorem d_Tt_sumWith_25 : decode b_Tt_sumWith 25 = .ok (.if_icmp .ge 99, 3) := by decide +kernel
theorem d_Tt_sumWith_28 : decode b_Tt_sumWith 28 = .ok (.iconst 0, 1) := by decide +kernel
theorem d_Tt_sumWith_29 : decode b_Tt_sumWith 29 = .ok (.istore 7, 2) := by decide +kernel
theorem d_Tt_sumWith_31 : decode b_Tt_sumWith 31 = .ok (.iload 7, 2) := by decide +kernel
theorem d_Tt_sumWith_33 : decode b_Tt_sumWith 33 = .ok (.aload_n 0, 1) := by decide +kernel
theorem d_Tt_sumWith_34 : decode b_Tt_sumWith 34 = .ok (.getfield 44, 3) := by decide +kernel
theorem d_Tt_sumWith_37 : decode b_Tt_sumWith 37 = .ok (.getfield 60, 3) := by decide +kernel
theorem d_Tt_sumWith_40 : decode b_Tt_sumWith 40 = .ok (.if_icmp .ge 25, 3) := by decide +kernel
theorem d_Tt_sumWith_43 : decode b_Tt_sumWith 43 = .ok (.aload_n 0, 1) := by decide +kernel
theorem d_Tt_sumWith_44 : decode b_Tt_sumWith 44 = .ok (.getfield 22, 3) := by decide +kernel
theorem d_Tt_sumWith_47 : decode b_Tt_sumWith 47 = .ok (.iload 7, 2) := by decide +kernel
theorem d_Tt_sumWith_49 : decode b_Tt_sumWith 49 = .ok (.aaload, 1) := by decide +kernel
theorem d_Tt_sumWith_50 : decode b_Tt_sumWith 50 = .ok (.iload 5, 2) := by decide +kernel
theorem d_Tt_sumWith_52 : decode b_Tt_sumWith 52 = .ok (.iload 6, 2) := by decide +kernel
theorem d_Tt_sumWith_54 : decode b_Tt_sumWith 54 = .ok (.invokestatic 56, 3) := by decide +kernel
theorem d_Tt_sumWith_57 : decode b_Tt_sumWith 57 = .ok (.lconst 0, 1) := by decide +kernel
theorem d_Tt_sumWith_58 : decode b_Tt_sumWith 58 = .ok (.lastore, 1) := by decide +kernel
theorem d_Tt_sumWith_59 : decode b_Tt_sumWith 59 = .ok (.iinc 7 1, 3) := by decide +kernel
theorem d_Tt_sumWith_62 : decode b_Tt_sumWith 62 = .ok (.goto (-31), 3) := by decide +kernel
theorem d_Tt_sumWith_65 : decode b_Tt_sumWith 65 = .ok (.iload 5, 2) := by decide +kernel
theorem d_Tt_sumWith_67 : decode b_Tt_sumWith 67 = .ok (.iload_n 3, 1) := by decide +kernel
theorem d_Tt_sumWith_68 : decode b_Tt_sumWith 68 = .ok (.if_icmp .ne 39, 3) := by decide +kernel
theorem d_Tt_sumWith_71 : decode b_Tt_sumWith 71 = .ok (.iload 6, 2) := by decide +kernel
theorem d_Tt_sumWith_73 : decode b_Tt_sumWith 73 = .ok (.iload 4, 2) := by decide +kernel
theorem d_Tt_sumWith_75 : decode b_Tt_sumWith 75 = .ok (.if_icmp .ne 32, 3) := by decide +kernel
theorem d_Tt_sumWith_78 : decode b_Tt_sumWith 78 = .ok (.aload_n 0, 1) := by decide +kernel
theorem d_Tt_sumWith_79 : decode b_Tt_sumWith 79 = .ok (.getfield 22, 3) := by decide +kernel
theorem d_Tt_sumWith_82 : decode b_Tt_sumWith 82 = .ok (.iload_n 2, 1) := by decide +kernel
theorem d_Tt_sumWith_83 : decode b_Tt_sumWith 83 = .ok (.aaload, 1) := by decide +kernel
theorem d_Tt_sumWith_84 : decode b_Tt_sumWith 84 = .ok (.iload_n 3, 1) := by decide +kernel
theorem d_Tt_sumWith_85 : decode b_Tt_sumWith 85 = .ok (.iload 4, 2) := by decide +kernel
theorem d_Tt_sumWith_87 : decode b_Tt_sumWith 87 = .ok (.invokestatic 56, 3) := by decide +kernel
theorem d_Tt_sumWith_90 : decode b_Tt_sumWith 90 = .ok (.aload_n 0, 1) := by decide +kernel
theorem d_Tt_sumWith_91 : decode b_Tt_sumWith 91 = .ok (.getfield 13, 3) := by decide +kernel
theorem d_Tt_sumWith_94 : decode b_Tt_sumWith 94 = .ok (.iload_n 2, 1) := by decide +kernel
theorem d_Tt_sumWith_95 : decode b_Tt_sumWith 95 = .ok (.aaload, 1) := by decide +kernel
theorem d_Tt_sumWith_96 : decode b_Tt_sumWith 96 = .ok (.iload_n 3, 1) := by decide +kernel
theorem d_Tt_sumWith_97 : decode b_Tt_sumWith 97 = .ok (.iload 4, 2) := by decide +kernel
theorem d_Tt_sumWith_99 : decode b_Tt_sumWith 99 = .ok (.invokestatic 56, 3) := by decide +kernel
theorem d_Tt_sumWith_102 : decode b_Tt_sumWith 102 = .ok (.laload, 1) := by decide +kernel
theorem d_Tt_sumWith_103 : decode b_Tt_sumWith 103 = .ok (.lastore, 1) := by decide +kernel
theorem d_Tt_sumWith_104 : decode b_Tt_sumWith 104 = .ok (.goto 14, 3) := by decide +kernel
theorem d_Tt_sumWith_107 : decode b_Tt_sumWith 107 = .ok (.aload_n 0, 1) := by decide +kernel
theorem d_Tt_sumWith_108 : decode b_Tt_sumWith 108 = .ok (.iload 5, 2) := by decide +kernel
theorem d_Tt_sumWith_110 : decode b_Tt_sumWith 110 = .ok (.iload 6, 2) := by decide +kernel
theorem d_Tt_sumWith_112 : decode b_Tt_sumWith 112 = .ok (.iload_n 3, 1) := by decide +kernel
theorem d_Tt_sumWith_113 : decode b_Tt_sumWith 113 = .ok (.iload 4, 2) := by decide +kernel
theorem d_Tt_sumWith_115 : decode b_Tt_sumWith 115 = .ok (.invokevirtual 105, 3) := by decide +kernel
theorem d_Tt_sumWith_118 : decode b_Tt_sumWith 118 = .ok (.iinc 6 1, 3) := by decide +kernel
theorem d_Tt_sumWith_121 : decode b_Tt_sumWith 121 = .ok (.goto (-105), 3) := by decide +kernel
theorem d_Tt_sumWith_124 : decode b_Tt_sumWith 124 = .ok (.iinc 5 (-1), 3) := by decide +kernel
theorem d_Tt_sumWith_127 : decode b_Tt_sumWith 127 = .ok (.goto (-120), 3) := by decide +kernel
theorem d_Tt_sumWith_130 : decode b_Tt_sumWith 130 = .ok (.aload_n 0, 1) := by decide +kernel
theorem d_Tt_sumWith_131 : decode b_Tt_sumWith 131 = .ok (.getfield 40, 3) := by decide +kernel
theorem d_Tt_sumWith_134 : decode b_Tt_sumWith 134 = .ok (.getfield 51, 3) := by decide +kernel
theorem d_Tt_sumWith_137 : decode b_Tt_sumWith 137 = .ok (.ifCond .le 26, 3) := by decide +kernel
theorem d_Tt_sumWith_140 : decode b_Tt_sumWith 140 = .ok (.aload_n 0, 1) := by decide +kernel
theorem d_Tt_sumWith_141 : decode b_Tt_sumWith 141 = .ok (.getfield 22, 3) := by decide +kernel
theorem d_Tt_sumWith_144 : decode b_Tt_sumWith 144 = .ok (.iload_n 1, 1) := by decide +kernel
theorem d_Tt_sumWith_145 : decode b_Tt_sumWith 145 = .ok (.aaload, 1) := by decide +kernel
theorem d_Tt_sumWith_146 : decode b_Tt_sumWith 146 = .ok (.iconst 0, 1) := by decide +kernel
theorem d_Tt_sumWith_147 : decode b_Tt_sumWith 147 = .ok (.aload_n 0, 1) := by decide +kernel
theorem d_Tt_sumWith_148 : decode b_Tt_sumWith 148 = .ok (.getfield 40, 3) := by decide +kernel
theorem d_Tt_sumWith_151 : decode b_Tt_sumWith 151 = .ok (.getfield 51, 3) := by decide +kernel
theorem d_Tt_sumWith_154 : decode b_Tt_sumWith 154 = .ok (.iconst 1, 1) := by decide +kernel
theorem d_Tt_sumWith_155 : decode b_Tt_sumWith 155 = .ok (.isub, 1) := by decide +kernel
theorem d_Tt_sumWith_156 : decode b_Tt_sumWith 156 = .ok (.invokestatic 56, 3) := by decide +kernel
theorem d_Tt_sumWith_159 : decode b_Tt_sumWith 159 = .ok (.laload, 1) := by decide +kernel
theorem d_Tt_sumWith_160 : decode b_Tt_sumWith 160 = .ok (.goto 4, 3) := by decide +kernel
theorem d_Tt_sumWith_163 : decode b_Tt_sumWith 163 = .ok (.lconst 0, 1) := by decide +kernel
theorem d_Tt_sumWith_164 : decode b_Tt_sumWith 164 = .ok (.lreturn, 1) := by decide +kernel
theorem d_Tt_addAround_0 : decode b_Tt_addAround 0 = .ok (.iload_n 1, 1) := by decide +kernel
theorem d_Tt_addAround_1 : decode b_Tt_addAround 1 = .ok (.iconst 1, 1) := by decide +kernel
theorem d_Tt_addAround_2 : decode b_Tt_addAround 2 = .ok (.iadd, 1) := by decide +kernel
theorem d_Tt_addAround_3 : decode b_Tt_addAround 3 = .ok (.istore 5, 2) := by decide +kernel
theorem d_Tt_addAround_5 : decode b_Tt_addAround 5 = .ok (.iload 5, 2) := by decide +kernel
theorem d_Tt_addAround_7 : decode b_Tt_addAround 7 = .ok (.iload_n 3, 1) := by decide +kernel
theorem d_Tt_addAround_8 : decode b_Tt_addAround 8 = .ok (.if_icmp .gt 40, 3) := by decide +kernel
theorem d_Tt_addAround_11 : decode b_Tt_addAround 11 = .ok (.aload_n 0, 1) := by decide +kernel
theorem d_Tt_addAround_12 : decode b_Tt_addAround 12 = .ok (.iload_n 1, 1) := by decide +kernel
theorem d_Tt_addAround_13 : decode b_Tt_addAround 13 = .ok (.iload_n 2, 1) := by decide +kernel
theorem d_Tt_addAround_14 : decode b_Tt_addAround 14 = .ok (.invokestatic 56, 3) := by decide +kernel
theorem d_Tt_addAround_17 : decode b_Tt_addAround 17 = .ok (.aload_n 0, 1) := by decide +kernel
theorem d_Tt_addAround_18 : decode b_Tt_addAround 18 = .ok (.getfield 13, 3) := by decide +kernel
theorem d_Tt_addAround_21 : decode b_Tt_addAround 21 = .ok (.iload_n 1, 1) := by decide +kernel
theorem d_Tt_addAround_22 : decode b_Tt_addAround 22 = .ok (.iload 5, 2) := by decide +kernel
theorem d_Tt_addAround_24 : decode b_Tt_addAround 24 = .ok (.iconst 1, 1) := by decide +kernel
theorem d_Tt_addAround_25 : decode b_Tt_addAround 25 = .ok (.isub, 1) := by decide +kernel
theorem d_Tt_addAround_26 : decode b_Tt_addAround 26 = .ok (.invokestatic 56, 3) := by decide +kernel
theorem d_Tt_addAround_29 : decode b_Tt_addAround 29 = .ok (.aload_n 0, 1) := by decide +kernel
theorem d_Tt_addAround_30 : decode b_Tt_addAround 30 = .ok (.getfield 22, 3) := by decide +kernel
theorem d_Tt_addAround_33 : decode b_Tt_addAround 33 = .ok (.iload 5, 2) := by decide +kernel
theorem d_Tt_addAround_35 : decode b_Tt_addAround 35 = .ok (.iload_n 2, 1) := by decide +kernel
theorem d_Tt_addAround_36 : decode b_Tt_addAround 36 = .ok (.invokestatic 56, 3) := by decide +kernel
theorem d_Tt_addAround_39 : decode b_Tt_addAround 39 = .ok (.invokevirtual 108, 3) := by decide +kernel
theorem d_Tt_addAround_42 : decode b_Tt_addAround 42 = .ok (.iinc 5 1, 3) := by decide +kernel
theorem d_Tt_addAround_45 : decode b_Tt_addAround 45 = .ok (.goto (-40), 3) := by decide +kernel
theorem d_Tt_addAround_48 : decode b_Tt_addAround 48 = .ok (.iload 4, 2) := by decide +kernel
theorem d_Tt_addAround_50 : decode b_Tt_addAround 50 = .ok (.iconst 1, 1) := by decide +kernel
theorem d_Tt_addAround_51 : decode b_Tt_addAround 51 = .ok (.iadd, 1) := by decide +kernel
theorem d_Tt_addAround_52 : decode b_Tt_addAround 52 = .ok (.istore 5, 2) := by decide +kernel
theorem d_Tt_addAround_54 : decode b_Tt_addAround 54 = .ok (.iload 5, 2) := by decide +kernel
theorem d_Tt_addAround_56 : decode b_Tt_addAround 56 = .ok (.iload_n 2, 1) := by decide +kernel
theorem d_Tt_addAround_57 : decode b_Tt_addAround 57 = .ok (.if_icmp .gt 40, 3) := by decide +kernel
theorem d_Tt_addAround_60 : decode b_Tt_addAround 60 = .ok (.aload_n 0, 1) := by decide +kernel
theorem d_Tt_addAround_61 : decode b_Tt_addAround 61 = .ok (.iload_n 1, 1) := by decide +kernel
theorem d_Tt_addAround_62 : decode b_Tt_addAround 62 = .ok (.iload_n 2, 1) := by decide +kernel
theorem d_Tt_addAround_63 : decode b_Tt_addAround 63 = .ok (.invokestatic 56, 3) := by decide +kernel
theorem d_Tt_addAround_66 : decode b_Tt_addAround 66 = .ok (.aload_n 0, 1) := by decide +kernel
theorem d_Tt_addAround_67 : decode b_Tt_addAround 67 = .ok (.getfield 22, 3) := by decide +kernel
theorem d_Tt_addAround_70 : decode b_Tt_addAround 70 = .ok (.iload_n 1, 1) := by decide +kernel
theorem d_Tt_addAround_71 : decode b_Tt_addAround 71 = .ok (.iload 5, 2) := by decide +kernel
theorem d_Tt_addAround_73 : decode b_Tt_addAround 73 = .ok (.iconst 1, 1) := by decide +kernel
theorem d_Tt_addAround_74 : decode b_Tt_addAround 74 = .ok (.isub, 1) := by decide +kernel
theorem d_Tt_addAround_75 : decode b_Tt_addAround 75 = .ok (.invokestatic 56, 3) := by decide +kernel
theorem d_Tt_addAround_78 : decode b_Tt_addAround 78 = .ok (.aload_n 0, 1) := by decide +kernel
theorem d_Tt_addAround_79 : decode b_Tt_addAround 79 = .ok (.getfield 13, 3) := by decide +kernel
theorem d_Tt_addAround_82 : decode b_Tt_addAround 82 = .ok (.iload 5, 2) := by decide +kernel
theorem d_Tt_addAround_84 : decode b_Tt_addAround 84 = .ok (.iload_n 2, 1) := by decide +kernel
theorem d_Tt_addAround_85 : decode b_Tt_addAround 85 = .ok (.invokestatic 56, 3) := by decide +kernel
theorem d_Tt_addAround_88 : decode b_Tt_addAround 88 = .ok (.invokevirtual 108, 3) := by decide +kernel
theorem d_Tt_addAround_91 : decode b_Tt_addAround 91 = .ok (.iinc 5 1, 3) := by decide +kernel
theorem d_Tt_addAround_94 : decode b_Tt_addAround 94 = .ok (.goto (-40), 3) := by decide +kernel
theorem d_Tt_addAround_97 : decode b_Tt_addAround 97 = .ok (.return_, 1) := by decide +kernel
theorem d_Tt_addProducts_0 : decode b_Tt_addProducts 0 = .ok (.iconst 0, 1) := by decide +kernel
theorem d_Tt_addProducts_1 : decode b_Tt_addProducts 1 = .ok (.istore 6, 2) := by decide +kernel
theorem d_Tt_addProducts_3 : decode b_Tt_addProducts 3 = .ok (.iload 6, 2) := by decide +kernel
theorem d_Tt_addProducts_5 : decode b_Tt_addProducts 5 = .ok (.aload_n 0, 1) := by decide +kernel
theorem d_Tt_addProducts_6 : decode b_Tt_addProducts 6 = .ok (.getfield 44, 3) := by decide +kernel
theorem d_Tt_addProducts_9 : decode b_Tt_addProducts 9 = .ok (.getfield 60, 3) := by decide +kernel
theorem d_Tt_addProducts_12 : decode b_Tt_addProducts 12 = .ok (.if_icmp .ge 102, 3) := by decide +kernel
theorem d_Tt_addProducts_15 : decode b_Tt_addProducts 15 = .ok (.iconst 0, 1) := by decide +kernel
theorem d_Tt_addProducts_16 : decode b_Tt_addProducts 16 = .ok (.istore 7, 2) := by decide +kernel
theorem d_Tt_addProducts_18 : decode b_Tt_addProducts 18 = .ok (.iload 7, 2) := by decide +kernel
theorem d_Tt_addProducts_20 : decode b_Tt_addProducts 20 = .ok (.aload_n 0, 1) := by decide +kernel
theorem d_Tt_addProducts_21 : decode b_Tt_addProducts 21 = .ok (.getfield 44, 3) := by decide +kernel
theorem d_Tt_addProducts_24 : decode b_Tt_addProducts 24 = .ok (.getfield 60, 3) := by decide +kernel
theorem d_Tt_addProducts_27 : decode b_Tt_addProducts 27 = .ok (.if_icmp .ge 81, 3) := by decide +kernel
theorem d_Tt_addProducts_30 : decode b_Tt_addProducts 30 = .ok (.iconst 0, 1) := by decide +kernel
theorem d_Tt_addProducts_31 : decode b_Tt_addProducts 31 = .ok (.istore 8, 2) := by decide +kernel
theorem d_Tt_addProducts_33 : decode b_Tt_addProducts 33 = .ok (.iload 8, 2) := by decide +kernel
theorem d_Tt_addProducts_35 : decode b_Tt_addProducts 35 = .ok (.aload_n 0, 1) := by decide +kernel
theorem d_Tt_addProducts_36 : decode b_Tt_addProducts 36 = .ok (.getfield 44, 3) := by decide +kernel
theorem d_Tt_addProducts_39 : decode b_Tt_addProducts 39 = .ok (.getfield 60, 3) := by decide +kernel
theorem d_Tt_addProducts_42 : decode b_Tt_addProducts 42 = .ok (.if_icmp .ge 60, 3) := by decide +kernel
theorem d_Tt_addProducts_45 : decode b_Tt_addProducts 45 = .ok (.aload_n 0, 1) := by decide +kernel
theorem d_Tt_addProducts_46 : decode b_Tt_addProducts 46 = .ok (.getfield 44, 3) := by decide +kernel
theorem d_Tt_addProducts_49 : decode b_Tt_addProducts 49 = .ok (.getfield 84, 3) := by decide +kernel
theorem d_Tt_addProducts_52 : decode b_Tt_addProducts 52 = .ok (.iload 6, 2) := by decide +kernel
theorem d_Tt_addProducts_54 : decode b_Tt_addProducts 54 = .ok (.aaload, 1) := by decide +kernel
theorem d_Tt_addProducts_55 : decode b_Tt_addProducts 55 = .ok (.iload 7, 2) := by decide +kernel
theorem d_Tt_addProducts_57 : decode b_Tt_addProducts 57 = .ok (.iload 8, 2) := by decide +kernel
theorem d_Tt_addProducts_59 : decode b_Tt_addProducts 59 = .ok (.invokestatic 88, 3) := by decide +kernel
theorem d_Tt_addProducts_62 : decode b_Tt_addProducts 62 = .ok (.iaload, 1) := by decide +kernel
theorem d_Tt_addProducts_63 : decode b_Tt_addProducts 63 = .ok (.i2l, 1) := by decide +kernel
theorem d_Tt_addProducts_64 : decode b_Tt_addProducts 64 = .ok (.lstore 9, 2) := by decide +kernel
theorem d_Tt_addProducts_66 : decode b_Tt_addProducts 66 = .ok (.aload_n 0, 1) := by decide +kernel
theorem d_Tt_addProducts_67 : decode b_Tt_addProducts 67 = .ok (.getfield 22, 3) := by decide +kernel
theorem d_Tt_addProducts_70 : decode b_Tt_addProducts 70 = .ok (.iload 6, 2) := by decide +kernel
theorem d_Tt_addProducts_72 : decode b_Tt_addProducts 72 = .ok (.aaload, 1) := by decide +kernel
theorem d_Tt_addProducts_73 : decode b_Tt_addProducts 73 = .ok (.iload_n 1, 1) := by decide +kernel
theorem d_Tt_addProducts_74 : decode b_Tt_addProducts 74 = .ok (.dup2, 1) := by decide +kernel
theorem d_Tt_addProducts_75 : decode b_Tt_addProducts 75 = .ok (.laload, 1) := by decide +kernel
theorem d_Tt_addProducts_76 : decode b_Tt_addProducts 76 = .ok (.lload 9, 2) := by decide +kernel
theorem d_Tt_addProducts_78 : decode b_Tt_addProducts 78 = .ok (.aload_n 2, 1) := by decide +kernel
theorem d_Tt_addProducts_79 : decode b_Tt_addProducts 79 = .ok (.iload 7, 2) := by decide +kernel
theorem d_Tt_addProducts_81 : decode b_Tt_addProducts 81 = .ok (.aaload, 1) := by decide +kernel
theorem d_Tt_addProducts_82 : decode b_Tt_addProducts 82 = .ok (.iload_n 3, 1) := by decide +kernel
theorem d_Tt_addProducts_83 : decode b_Tt_addProducts 83 = .ok (.laload, 1) := by decide +kernel
theorem d_Tt_addProducts_84 : decode b_Tt_addProducts 84 = .ok (.lmul, 1) := by decide +kernel
theorem d_Tt_addProducts_85 : decode b_Tt_addProducts 85 = .ok (.aload 4, 2) := by decide +kernel
theorem d_Tt_addProducts_87 : decode b_Tt_addProducts 87 = .ok (.iload 8, 2) := by decide +kernel
theorem d_Tt_addProducts_89 : decode b_Tt_addProducts 89 = .ok (.aaload, 1) := by decide +kernel
theorem d_Tt_addProducts_90 : decode b_Tt_addProducts 90 = .ok (.iload 5, 2) := by decide +kernel
theorem d_Tt_addProducts_92 : decode b_Tt_addProducts 92 = .ok (.laload, 1) := by decide +kernel
theorem d_Tt_addProducts_93 : decode b_Tt_addProducts 93 = .ok (.lmul, 1) := by decide +kernel
theorem d_Tt_addProducts_94 : decode b_Tt_addProducts 94 = .ok (.ladd, 1) := by decide +kernel
theorem d_Tt_addProducts_95 : decode b_Tt_addProducts 95 = .ok (.lastore, 1) := by decide +kernel
theorem d_Tt_addProducts_96 : decode b_Tt_addProducts 96 = .ok (.iinc 8 1, 3) := by decide +kernel
theorem d_Tt_addProducts_99 : decode b_Tt_addProducts 99 = .ok (.goto (-66), 3) := by decide +kernel
theorem d_Tt_addProducts_102 : decode b_Tt_addProducts 102 = .ok (.iinc 7 1, 3) := by decide +kernel
theorem d_Tt_addProducts_105 : decode b_Tt_addProducts 105 = .ok (.goto (-87), 3) := by decide +kernel
theorem d_Tt_addProducts_108 : decode b_Tt_addProducts 108 = .ok (.iinc 6 1, 3) := by decide +kernel
theorem d_Tt_addProducts_111 : decode b_Tt_addProducts 111 = .ok (.goto (-108), 3) := by decide +kernel
theorem d_Tt_addProducts_114 : decode b_Tt_addProducts 114 = .ok (.return_, 1) := by decide +kernel
