theorem d_Bw_init_0 : decode b_Bw_init 0 = .ok (.aload_n 0, 1) := by decide +kernel
theorem d_Bw_init_1 : decode b_Bw_init 1 = .ok (.invokespecial 3, 3) := by decide +kernel
theorem d_Bw_init_4 : decode b_Bw_init 4 = .ok (.aload_n 0, 1) := by decide +kernel
theorem d_Bw_init_5 : decode b_Bw_init 5 = .ok (.bipush 24, 2) := by decide +kernel
theorem d_Bw_init_7 : decode b_Bw_init 7 = .ok (.anewarray 9, 3) := by decide +kernel
theorem d_Bw_init_10 : decode b_Bw_init 10 = .ok (.putfield 11, 3) := by decide +kernel
theorem d_Bw_init_13 : decode b_Bw_init 13 = .ok (.aload_n 0, 1) := by decide +kernel
theorem d_Bw_init_14 : decode b_Bw_init 14 = .ok (.new 9, 3) := by decide +kernel
theorem d_Bw_init_17 : decode b_Bw_init 17 = .ok (.dup, 1) := by decide +kernel
theorem d_Bw_init_18 : decode b_Bw_init 18 = .ok (.invokespecial 17, 3) := by decide +kernel
theorem d_Bw_init_21 : decode b_Bw_init 21 = .ok (.putfield 18, 3) := by decide +kernel
theorem d_Bw_init_24 : decode b_Bw_init 24 = .ok (.aload_n 0, 1) := by decide +kernel
theorem d_Bw_init_25 : decode b_Bw_init 25 = .ok (.iconst 0, 1) := by decide +kernel
theorem d_Bw_init_26 : decode b_Bw_init 26 = .ok (.putfield 22, 3) := by decide +kernel
theorem d_Bw_init_29 : decode b_Bw_init 29 = .ok (.aload_n 0, 1) := by decide +kernel
theorem d_Bw_init_30 : decode b_Bw_init 30 = .ok (.aload_n 1, 1) := by decide +kernel
theorem d_Bw_init_31 : decode b_Bw_init 31 = .ok (.putfield 26, 3) := by decide +kernel
theorem d_Bw_init_34 : decode b_Bw_init 34 = .ok (.aload_n 0, 1) := by decide +kernel
theorem d_Bw_init_35 : decode b_Bw_init 35 = .ok (.aload_n 2, 1) := by decide +kernel
theorem d_Bw_init_36 : decode b_Bw_init 36 = .ok (.putfield 30, 3) := by decide +kernel
theorem d_Bw_init_39 : decode b_Bw_init 39 = .ok (.aload_n 0, 1) := by decide +kernel
theorem d_Bw_init_40 : decode b_Bw_init 40 = .ok (.aload_n 3, 1) := by decide +kernel
theorem d_Bw_init_41 : decode b_Bw_init 41 = .ok (.putfield 34, 3) := by decide +kernel
theorem d_Bw_init_44 : decode b_Bw_init 44 = .ok (.iconst 0, 1) := by decide +kernel
theorem d_Bw_init_45 : decode b_Bw_init 45 = .ok (.istore 4, 2) := by decide +kernel
theorem d_Bw_init_47 : decode b_Bw_init 47 = .ok (.iload 4, 2) := by decide +kernel
theorem d_Bw_init_49 : decode b_Bw_init 49 = .ok (.bipush 24, 2) := by decide +kernel
theorem d_Bw_init_51 : decode b_Bw_init 51 = .ok (.if_icmp .ge 23, 3) := by decide +kernel
theorem d_Bw_init_54 : decode b_Bw_init 54 = .ok (.aload_n 0, 1) := by decide +kernel
theorem d_Bw_init_55 : decode b_Bw_init 55 = .ok (.getfield 11, 3) := by decide +kernel
theorem d_Bw_init_58 : decode b_Bw_init 58 = .ok (.iload 4, 2) := by decide +kernel
theorem d_Bw_init_60 : decode b_Bw_init 60 = .ok (.new 9, 3) := by decide +kernel
theorem d_Bw_init_63 : decode b_Bw_init 63 = .ok (.dup, 1) := by decide +kernel
theorem d_Bw_init_64 : decode b_Bw_init 64 = .ok (.invokespecial 17, 3) := by decide +kernel
theorem d_Bw_init_67 : decode b_Bw_init 67 = .ok (.aastore, 1) := by decide +kernel
theorem d_Bw_init_68 : decode b_Bw_init 68 = .ok (.iinc 4 1, 3) := by decide +kernel
theorem d_Bw_init_71 : decode b_Bw_init 71 = .ok (.goto (-24), 3) := by decide +kernel
theorem d_Bw_init_74 : decode b_Bw_init 74 = .ok (.return_, 1) := by decide +kernel
theorem d_Bw_list_0 : decode b_Bw_list 0 = .ok (.aload_n 0, 1) := by decide +kernel
theorem d_Bw_list_1 : decode b_Bw_list 1 = .ok (.getfield 22, 3) := by decide +kernel
theorem d_Bw_list_4 : decode b_Bw_list 4 = .ok (.ifCond .ne 64, 3) := by decide +kernel
theorem d_Bw_list_7 : decode b_Bw_list 7 = .ok (.aload_n 0, 1) := by decide +kernel
theorem d_Bw_list_8 : decode b_Bw_list 8 = .ok (.iconst 1, 1) := by decide +kernel
theorem d_Bw_list_9 : decode b_Bw_list 9 = .ok (.putfield 22, 3) := by decide +kernel
theorem d_Bw_list_12 : decode b_Bw_list 12 = .ok (.aload_n 0, 1) := by decide +kernel
theorem d_Bw_list_13 : decode b_Bw_list 13 = .ok (.getfield 34, 3) := by decide +kernel
theorem d_Bw_list_16 : decode b_Bw_list 16 = .ok (.invokevirtual 38, 3) := by decide +kernel
theorem d_Bw_list_19 : decode b_Bw_list 19 = .ok (.aload_n 0, 1) := by decide +kernel
theorem d_Bw_list_20 : decode b_Bw_list 20 = .ok (.getfield 26, 3) := by decide +kernel
theorem d_Bw_list_23 : decode b_Bw_list 23 = .ok (.getfield 43, 3) := by decide +kernel
theorem d_Bw_list_26 : decode b_Bw_list 26 = .ok (.iconst 1, 1) := by decide +kernel
theorem d_Bw_list_27 : decode b_Bw_list 27 = .ok (.isub, 1) := by decide +kernel
theorem d_Bw_list_28 : decode b_Bw_list 28 = .ok (.istore_n 1, 1) := by decide +kernel
theorem d_Bw_list_29 : decode b_Bw_list 29 = .ok (.iload_n 1, 1) := by decide +kernel
theorem d_Bw_list_30 : decode b_Bw_list 30 = .ok (.ifCond .lt 34, 3) := by decide +kernel
theorem d_Bw_list_33 : decode b_Bw_list 33 = .ok (.iconst 0, 1) := by decide +kernel
theorem d_Bw_list_34 : decode b_Bw_list 34 = .ok (.istore_n 2, 1) := by decide +kernel
theorem d_Bw_list_35 : decode b_Bw_list 35 = .ok (.iload_n 2, 1) := by decide +kernel
theorem d_Bw_list_36 : decode b_Bw_list 36 = .ok (.aload_n 0, 1) := by decide +kernel
theorem d_Bw_list_37 : decode b_Bw_list 37 = .ok (.getfield 30, 3) := by decide +kernel
theorem d_Bw_list_40 : decode b_Bw_list 40 = .ok (.getfield 49, 3) := by decide +kernel
theorem d_Bw_list_43 : decode b_Bw_list 43 = .ok (.if_icmp .ge 15, 3) := by decide +kernel
theorem d_Bw_list_46 : decode b_Bw_list 46 = .ok (.aload_n 0, 1) := by decide +kernel
theorem d_Bw_list_47 : decode b_Bw_list 47 = .ok (.iload_n 1, 1) := by decide +kernel
theorem d_Bw_list_48 : decode b_Bw_list 48 = .ok (.iload_n 2, 1) := by decide +kernel
theorem d_Bw_list_49 : decode b_Bw_list 49 = .ok (.invokevirtual 54, 3) := by decide +kernel
theorem d_Bw_list_52 : decode b_Bw_list 52 = .ok (.iinc 2 1, 3) := by decide +kernel
theorem d_Bw_list_55 : decode b_Bw_list 55 = .ok (.goto (-20), 3) := by decide +kernel
theorem d_Bw_list_58 : decode b_Bw_list 58 = .ok (.iinc 1 (-1), 3) := by decide +kernel
theorem d_Bw_list_61 : decode b_Bw_list 61 = .ok (.goto (-32), 3) := by decide +kernel
theorem d_Bw_list_64 : decode b_Bw_list 64 = .ok (.aload_n 0, 1) := by decide +kernel
theorem d_Bw_list_65 : decode b_Bw_list 65 = .ok (.invokevirtual 58, 3) := by decide +kernel
theorem d_Bw_list_68 : decode b_Bw_list 68 = .ok (.aload_n 0, 1) := by decide +kernel
theorem d_Bw_list_69 : decode b_Bw_list 69 = .ok (.getfield 18, 3) := by decide +kernel
theorem d_Bw_list_72 : decode b_Bw_list 72 = .ok (.areturn, 1) := by decide +kernel
theorem d_Bw_listEnds_0 : decode b_Bw_listEnds 0 = .ok (.aload_n 0, 1) := by decide +kernel
theorem d_Bw_listEnds_1 : decode b_Bw_listEnds 1 = .ok (.iload_n 1, 1) := by decide +kernel
theorem d_Bw_listEnds_2 : decode b_Bw_listEnds 2 = .ok (.iload_n 2, 1) := by decide +kernel
theorem d_Bw_listEnds_3 : decode b_Bw_listEnds 3 = .ok (.invokevirtual 68, 3) := by decide +kernel
theorem d_Bw_listEnds_6 : decode b_Bw_listEnds 6 = .ok (.astore_n 3, 1) := by decide +kernel
theorem d_Bw_listEnds_7 : decode b_Bw_listEnds 7 = .ok (.aload_n 3, 1) := by decide +kernel
theorem d_Bw_listEnds_8 : decode b_Bw_listEnds 8 = .ok (.iconst 0, 1) := by decide +kernel
theorem d_Bw_listEnds_9 : decode b_Bw_listEnds 9 = .ok (.putfield 61, 3) := by decide +kernel
theorem d_Bw_listEnds_12 : decode b_Bw_listEnds 12 = .ok (.iconst 2, 1) := by decide +kernel
theorem d_Bw_listEnds_13 : decode b_Bw_listEnds 13 = .ok (.iload_n 2, 1) := by decide +kernel
theorem d_Bw_listEnds_14 : decode b_Bw_listEnds 14 = .ok (.imul, 1) := by decide +kernel
theorem d_Bw_listEnds_15 : decode b_Bw_listEnds 15 = .ok (.istore 4, 2) := by decide +kernel
theorem d_Bw_listEnds_17 : decode b_Bw_listEnds 17 = .ok (.iconst 1, 1) := by decide +kernel
theorem d_Bw_listEnds_18 : decode b_Bw_listEnds 18 = .ok (.istore 5, 2) := by decide +kernel
theorem d_Bw_listEnds_20 : decode b_Bw_listEnds 20 = .ok (.iload 5, 2) := by decide +kernel
theorem d_Bw_listEnds_22 : decode b_Bw_listEnds 22 = .ok (.iconst 3, 1) := by decide +kernel
theorem d_Bw_listEnds_23 : decode b_Bw_listEnds 23 = .ok (.if_icmp .gt 101, 3) := by decide +kernel
theorem d_Bw_listEnds_26 : decode b_Bw_listEnds 26 = .ok (.iload_n 1, 1) := by decide +kernel
theorem d_Bw_listEnds_27 : decode b_Bw_listEnds 27 = .ok (.iload 5, 2) := by decide +kernel
theorem d_Bw_listEnds_29 : decode b_Bw_listEnds 29 = .ok (.iadd, 1) := by decide +kernel
theorem d_Bw_listEnds_30 : decode b_Bw_listEnds 30 = .ok (.aload_n 0, 1) := by decide +kernel
theorem d_Bw_listEnds_31 : decode b_Bw_listEnds 31 = .ok (.getfield 26, 3) := by decide +kernel
theorem d_Bw_listEnds_34 : decode b_Bw_listEnds 34 = .ok (.getfield 43, 3) := by decide +kernel
theorem d_Bw_listEnds_37 : decode b_Bw_listEnds 37 = .ok (.if_icmp .gt 87, 3) := by decide +kernel
theorem d_Bw_listEnds_40 : decode b_Bw_listEnds 40 = .ok (.aload_n 0, 1) := by decide +kernel
theorem d_Bw_listEnds_41 : decode b_Bw_listEnds 41 = .ok (.getfield 34, 3) := by decide +kernel
theorem d_Bw_listEnds_44 : decode b_Bw_listEnds 44 = .ok (.iload_n 1, 1) := by decide +kernel
theorem d_Bw_listEnds_45 : decode b_Bw_listEnds 45 = .ok (.iload 5, 2) := by decide +kernel
theorem d_Bw_listEnds_47 : decode b_Bw_listEnds 47 = .ok (.iload_n 2, 1) := by decide +kernel
theorem d_Bw_listEnds_48 : decode b_Bw_listEnds 48 = .ok (.invokevirtual 76, 3) := by decide +kernel
theorem d_Bw_listEnds_51 : decode b_Bw_listEnds 51 = .ok (.lstore 6, 2) := by decide +kernel
theorem d_Bw_listEnds_53 : decode b_Bw_listEnds 53 = .ok (.iload_n 1, 1) := by decide +kernel
theorem d_Bw_listEnds_54 : decode b_Bw_listEnds 54 = .ok (.iload 5, 2) := by decide +kernel
theorem d_Bw_listEnds_56 : decode b_Bw_listEnds 56 = .ok (.iadd, 1) := by decide +kernel
theorem d_Bw_listEnds_57 : decode b_Bw_listEnds 57 = .ok (.aload_n 0, 1) := by decide +kernel
theorem d_Bw_listEnds_58 : decode b_Bw_listEnds 58 = .ok (.getfield 26, 3) := by decide +kernel
theorem d_Bw_listEnds_61 : decode b_Bw_listEnds 61 = .ok (.getfield 43, 3) := by decide +kernel
theorem d_Bw_listEnds_64 : decode b_Bw_listEnds 64 = .ok (.if_icmp .ne 28, 3) := by decide +kernel
theorem d_Bw_listEnds_67 : decode b_Bw_listEnds 67 = .ok (.aload_n 3, 1) := by decide +kernel
theorem d_Bw_listEnds_68 : decode b_Bw_listEnds 68 = .ok (.lload 6, 2) := by decide +kernel
theorem d_Bw_listEnds_70 : decode b_Bw_listEnds 70 = .ok (.aload_n 0, 1) := by decide +kernel
theorem d_Bw_listEnds_71 : decode b_Bw_listEnds 71 = .ok (.getfield 30, 3) := by decide +kernel
theorem d_Bw_listEnds_74 : decode b_Bw_listEnds 74 = .ok (.getfield 64, 3) := by decide +kernel
theorem d_Bw_listEnds_77 : decode b_Bw_listEnds 77 = .ok (.iload_n 2, 1) := by decide +kernel
theorem d_Bw_listEnds_78 : decode b_Bw_listEnds 78 = .ok (.aaload, 1) := by decide +kernel
theorem d_Bw_listEnds_79 : decode b_Bw_listEnds 79 = .ok (.iconst 1, 1) := by decide +kernel
theorem d_Bw_listEnds_80 : decode b_Bw_listEnds 80 = .ok (.iaload, 1) := by decide +kernel
theorem d_Bw_listEnds_81 : decode b_Bw_listEnds 81 = .ok (.i2l, 1) := by decide +kernel
theorem d_Bw_listEnds_82 : decode b_Bw_listEnds 82 = .ok (.lmul, 1) := by decide +kernel
theorem d_Bw_listEnds_83 : decode b_Bw_listEnds 83 = .ok (.iload 4, 2) := by decide +kernel
theorem d_Bw_listEnds_85 : decode b_Bw_listEnds 85 = .ok (.invokevirtual 80, 3) := by decide +kernel
theorem d_Bw_listEnds_88 : decode b_Bw_listEnds 88 = .ok (.pop, 1) := by decide +kernel
theorem d_Bw_listEnds_89 : decode b_Bw_listEnds 89 = .ok (.goto 17, 3) := by decide +kernel
theorem d_Bw_listEnds_92 : decode b_Bw_listEnds 92 = .ok (.aload_n 0, 1) := by decide +kernel
theorem d_Bw_listEnds_93 : decode b_Bw_listEnds 93 = .ok (.aload_n 3, 1) := by decide +kernel
theorem d_Bw_listEnds_94 : decode b_Bw_listEnds 94 = .ok (.lload 6, 2) := by decide +kernel
theorem d_Bw_listEnds_96 : decode b_Bw_listEnds 96 = .ok (.iload 4, 2) := by decide +kernel
theorem d_Bw_listEnds_98 : decode b_Bw_listEnds 98 = .ok (.iload_n 1, 1) := by decide +kernel
theorem d_Bw_listEnds_99 : decode b_Bw_listEnds 99 = .ok (.iload 5, 2) := by decide +kernel
theorem d_Bw_listEnds_101 : decode b_Bw_listEnds 101 = .ok (.iadd, 1) := by decide +kernel
theorem d_Bw_listEnds_102 : decode b_Bw_listEnds 102 = .ok (.iload_n 2, 1) := by decide +kernel
theorem d_Bw_listEnds_103 : decode b_Bw_listEnds 103 = .ok (.invokevirtual 84, 3) := by decide +kernel
theorem d_Bw_listEnds_106 : decode b_Bw_listEnds 106 = .ok (.iload 4, 2) := by decide +kernel
theorem d_Bw_listEnds_108 : decode b_Bw_listEnds 108 = .ok (.iconst 3, 1) := by decide +kernel
theorem d_Bw_listEnds_109 : decode b_Bw_listEnds 109 = .ok (.ishl, 1) := by decide +kernel
theorem d_Bw_listEnds_110 : decode b_Bw_listEnds 110 = .ok (.iconst 2, 1) := by decide +kernel
theorem d_Bw_listEnds_111 : decode b_Bw_listEnds 111 = .ok (.iload_n 2, 1) := by decide +kernel
theorem d_Bw_listEnds_112 : decode b_Bw_listEnds 112 = .ok (.imul, 1) := by decide +kernel
theorem d_Bw_listEnds_113 : decode b_Bw_listEnds 113 = .ok (.iconst 1, 1) := by decide +kernel
theorem d_Bw_listEnds_114 : decode b_Bw_listEnds 114 = .ok (.iadd, 1) := by decide +kernel
theorem d_Bw_listEnds_115 : decode b_Bw_listEnds 115 = .ok (.ior, 1) := by decide +kernel
theorem d_Bw_listEnds_116 : decode b_Bw_listEnds 116 = .ok (.istore 4, 2) := by decide +kernel
theorem d_Bw_listEnds_118 : decode b_Bw_listEnds 118 = .ok (.iinc 5 1, 3) := by decide +kernel
theorem d_Bw_listEnds_121 : decode b_Bw_listEnds 121 = .ok (.goto (-101), 3) := by decide +kernel
theorem d_Bw_listEnds_124 : decode b_Bw_listEnds 124 = .ok (.return_, 1) := by decide +kernel
theorem d_Bw_endsFrom_0 : decode b_Bw_endsFrom 0 = .ok (.aload_n 0, 1) := by decide +kernel
theorem d_Bw_endsFrom_1 : decode b_Bw_endsFrom 1 = .ok (.getfield 11, 3) := by decide +kernel
theorem d_Bw_endsFrom_4 : decode b_Bw_endsFrom 4 = .ok (.iload_n 1, 1) := by decide +kernel
theorem d_Bw_endsFrom_5 : decode b_Bw_endsFrom 5 = .ok (.iconst 4, 1) := by decide +kernel
theorem d_Bw_endsFrom_6 : decode b_Bw_endsFrom 6 = .ok (.imul, 1) := by decide +kernel
theorem d_Bw_endsFrom_7 : decode b_Bw_endsFrom 7 = .ok (.iload_n 2, 1) := by decide +kernel
theorem d_Bw_endsFrom_8 : decode b_Bw_endsFrom 8 = .ok (.iadd, 1) := by decide +kernel
theorem d_Bw_endsFrom_9 : decode b_Bw_endsFrom 9 = .ok (.aaload, 1) := by decide +kernel
theorem d_Bw_endsFrom_10 : decode b_Bw_endsFrom 10 = .ok (.areturn, 1) := by decide +kernel
theorem d_Bw_offerMoves_0 : decode b_Bw_offerMoves 0 = .ok (.iload 4, 2) := by decide +kernel
theorem d_Bw_offerMoves_2 : decode b_Bw_offerMoves 2 = .ok (.iconst 3, 1) := by decide +kernel
theorem d_Bw_offerMoves_3 : decode b_Bw_offerMoves 3 = .ok (.aload_n 0, 1) := by decide +kernel
theorem d_Bw_offerMoves_4 : decode b_Bw_offerMoves 4 = .ok (.getfield 26, 3) := by decide +kernel
theorem d_Bw_offerMoves_7 : decode b_Bw_offerMoves 7 = .ok (.getfield 43, 3) := by decide +kernel
theorem d_Bw_offerMoves_10 : decode b_Bw_offerMoves 10 = .ok (.iload 5, 2) := by decide +kernel
theorem d_Bw_offerMoves_12 : decode b_Bw_offerMoves 12 = .ok (.isub, 1) := by decide +kernel
theorem d_Bw_offerMoves_13 : decode b_Bw_offerMoves 13 = .ok (.imul, 1) := by decide +kernel
theorem d_Bw_offerMoves_14 : decode b_Bw_offerMoves 14 = .ok (.ishl, 1) := by decide +kernel
theorem d_Bw_offerMoves_15 : decode b_Bw_offerMoves 15 = .ok (.istore 7, 2) := by decide +kernel
theorem d_Bw_offerMoves_17 : decode b_Bw_offerMoves 17 = .ok (.iconst 0, 1) := by decide +kernel
theorem d_Bw_offerMoves_18 : decode b_Bw_offerMoves 18 = .ok (.istore 8, 2) := by decide +kernel
theorem d_Bw_offerMoves_20 : decode b_Bw_offerMoves 20 = .ok (.iload 8, 2) := by decide +kernel
theorem d_Bw_offerMoves_22 : decode b_Bw_offerMoves 22 = .ok (.aload_n 0, 1) := by decide +kernel
theorem d_Bw_offerMoves_23 : decode b_Bw_offerMoves 23 = .ok (.getfield 30, 3) := by decide +kernel
theorem d_Bw_offerMoves_26 : decode b_Bw_offerMoves 26 = .ok (.getfield 49, 3) := by decide +kernel
theorem d_Bw_offerMoves_29 : decode b_Bw_offerMoves 29 = .ok (.if_icmp .ge 39, 3) := by decide +kernel
theorem d_Bw_offerMoves_32 : decode b_Bw_offerMoves 32 = .ok (.aload_n 1, 1) := by decide +kernel
theorem d_Bw_offerMoves_33 : decode b_Bw_offerMoves 33 = .ok (.lload_n 2, 1) := by decide +kernel
theorem d_Bw_offerMoves_34 : decode b_Bw_offerMoves 34 = .ok (.aload_n 0, 1) := by decide +kernel
theorem d_Bw_offerMoves_35 : decode b_Bw_offerMoves 35 = .ok (.getfield 30, 3) := by decide +kernel
theorem d_Bw_offerMoves_38 : decode b_Bw_offerMoves 38 = .ok (.getfield 88, 3) := by decide +kernel
theorem d_Bw_offerMoves_41 : decode b_Bw_offerMoves 41 = .ok (.iload 6, 2) := by decide +kernel
theorem d_Bw_offerMoves_43 : decode b_Bw_offerMoves 43 = .ok (.aaload, 1) := by decide +kernel
theorem d_Bw_offerMoves_44 : decode b_Bw_offerMoves 44 = .ok (.iload 8, 2) := by decide +kernel
theorem d_Bw_offerMoves_46 : decode b_Bw_offerMoves 46 = .ok (.iaload, 1) := by decide +kernel
theorem d_Bw_offerMoves_47 : decode b_Bw_offerMoves 47 = .ok (.i2l, 1) := by decide +kernel
theorem d_Bw_offerMoves_48 : decode b_Bw_offerMoves 48 = .ok (.lmul, 1) := by decide +kernel
theorem d_Bw_offerMoves_49 : decode b_Bw_offerMoves 49 = .ok (.iload 7, 2) := by decide +kernel
theorem d_Bw_offerMoves_51 : decode b_Bw_offerMoves 51 = .ok (.aload_n 0, 1) := by decide +kernel
theorem d_Bw_offerMoves_52 : decode b_Bw_offerMoves 52 = .ok (.iload 5, 2) := by decide +kernel
theorem d_Bw_offerMoves_54 : decode b_Bw_offerMoves 54 = .ok (.iload 8, 2) := by decide +kernel
theorem d_Bw_offerMoves_56 : decode b_Bw_offerMoves 56 = .ok (.invokevirtual 68, 3) := by decide +kernel
theorem d_Bw_offerMoves_59 : decode b_Bw_offerMoves 59 = .ok (.invokestatic 72, 3) := by decide +kernel
theorem d_Bw_offerMoves_62 : decode b_Bw_offerMoves 62 = .ok (.iinc 8 1, 3) := by decide +kernel
theorem d_Bw_offerMoves_65 : decode b_Bw_offerMoves 65 = .ok (.goto (-45), 3) := by decide +kernel
theorem d_Bw_offerMoves_68 : decode b_Bw_offerMoves 68 = .ok (.return_, 1) := by decide +kernel
theorem d_Bw_offerAll_0 : decode b_Bw_offerAll 0 = .ok (.iconst 0, 1) := by decide +kernel
theorem d_Bw_offerAll_1 : decode b_Bw_offerAll 1 = .ok (.istore 5, 2) := by decide +kernel
theorem d_Bw_offerAll_3 : decode b_Bw_offerAll 3 = .ok (.iload 5, 2) := by decide +kernel
theorem d_Bw_offerAll_5 : decode b_Bw_offerAll 5 = .ok (.aload 4, 2) := by decide +kernel
theorem d_Bw_offerAll_7 : decode b_Bw_offerAll 7 = .ok (.getfield 61, 3) := by decide +kernel
theorem d_Bw_offerAll_10 : decode b_Bw_offerAll 10 = .ok (.if_icmp .ge 37, 3) := by decide +kernel
theorem d_Bw_offerAll_13 : decode b_Bw_offerAll 13 = .ok (.aload_n 0, 1) := by decide +kernel
theorem d_Bw_offerAll_14 : decode b_Bw_offerAll 14 = .ok (.lload_n 1, 1) := by decide +kernel
theorem d_Bw_offerAll_15 : decode b_Bw_offerAll 15 = .ok (.aload 4, 2) := by decide +kernel
theorem d_Bw_offerAll_17 : decode b_Bw_offerAll 17 = .ok (.getfield 91, 3) := by decide +kernel
theorem d_Bw_offerAll_20 : decode b_Bw_offerAll 20 = .ok (.iload 5, 2) := by decide +kernel
theorem d_Bw_offerAll_22 : decode b_Bw_offerAll 22 = .ok (.laload, 1) := by decide +kernel
theorem d_Bw_offerAll_23 : decode b_Bw_offerAll 23 = .ok (.lmul, 1) := by decide +kernel
theorem d_Bw_offerAll_24 : decode b_Bw_offerAll 24 = .ok (.iload_n 3, 1) := by decide +kernel
theorem d_Bw_offerAll_25 : decode b_Bw_offerAll 25 = .ok (.aload 4, 2) := by decide +kernel
theorem d_Bw_offerAll_27 : decode b_Bw_offerAll 27 = .ok (.getfield 94, 3) := by decide +kernel
theorem d_Bw_offerAll_30 : decode b_Bw_offerAll 30 = .ok (.iload 5, 2) := by decide +kernel
theorem d_Bw_offerAll_32 : decode b_Bw_offerAll 32 = .ok (.iaload, 1) := by decide +kernel
theorem d_Bw_offerAll_33 : decode b_Bw_offerAll 33 = .ok (.ior, 1) := by decide +kernel
theorem d_Bw_offerAll_34 : decode b_Bw_offerAll 34 = .ok (.invokevirtual 80, 3) := by decide +kernel
theorem d_Bw_offerAll_37 : decode b_Bw_offerAll 37 = .ok (.ifCond .ne 4, 3) := by decide +kernel
theorem d_Bw_offerAll_40 : decode b_Bw_offerAll 40 = .ok (.return_, 1) := by decide +kernel
theorem d_Bw_offerAll_41 : decode b_Bw_offerAll 41 = .ok (.iinc 5 1, 3) := by decide +kernel
theorem d_Bw_offerAll_44 : decode b_Bw_offerAll 44 = .ok (.goto (-41), 3) := by decide +kernel
theorem d_Bw_offerAll_47 : decode b_Bw_offerAll 47 = .ok (.return_, 1) := by decide +kernel
theorem d_Bw_listWhole_0 : decode b_Bw_listWhole 0 = .ok (.aload_n 0, 1) := by decide +kernel
theorem d_Bw_listWhole_1 : decode b_Bw_listWhole 1 = .ok (.getfield 18, 3) := by decide +kernel
theorem d_Bw_listWhole_4 : decode b_Bw_listWhole 4 = .ok (.iconst 0, 1) := by decide +kernel
theorem d_Bw_listWhole_5 : decode b_Bw_listWhole 5 = .ok (.putfield 61, 3) := by decide +kernel
theorem d_Bw_listWhole_8 : decode b_Bw_listWhole 8 = .ok (.aload_n 0, 1) := by decide +kernel
theorem d_Bw_listWhole_9 : decode b_Bw_listWhole 9 = .ok (.getfield 26, 3) := by decide +kernel
theorem d_Bw_listWhole_12 : decode b_Bw_listWhole 12 = .ok (.getfield 43, 3) := by decide +kernel
theorem d_Bw_listWhole_15 : decode b_Bw_listWhole 15 = .ok (.ifCond .le 48, 3) := by decide +kernel
theorem d_Bw_listWhole_18 : decode b_Bw_listWhole 18 = .ok (.iconst 0, 1) := by decide +kernel
theorem d_Bw_listWhole_19 : decode b_Bw_listWhole 19 = .ok (.istore_n 1, 1) := by decide +kernel
theorem d_Bw_listWhole_20 : decode b_Bw_listWhole 20 = .ok (.iload_n 1, 1) := by decide +kernel
theorem d_Bw_listWhole_21 : decode b_Bw_listWhole 21 = .ok (.aload_n 0, 1) := by decide +kernel
theorem d_Bw_listWhole_22 : decode b_Bw_listWhole 22 = .ok (.getfield 30, 3) := by decide +kernel
theorem d_Bw_listWhole_25 : decode b_Bw_listWhole 25 = .ok (.getfield 49, 3) := by decide +kernel
theorem d_Bw_listWhole_28 : decode b_Bw_listWhole 28 = .ok (.if_icmp .ge 35, 3) := by decide +kernel
theorem d_Bw_listWhole_31 : decode b_Bw_listWhole 31 = .ok (.aload_n 0, 1) := by decide +kernel
theorem d_Bw_listWhole_32 : decode b_Bw_listWhole 32 = .ok (.getfield 18, 3) := by decide +kernel
theorem d_Bw_listWhole_35 : decode b_Bw_listWhole 35 = .ok (.aload_n 0, 1) := by decide +kernel
theorem d_Bw_listWhole_36 : decode b_Bw_listWhole 36 = .ok (.getfield 30, 3) := by decide +kernel
theorem d_Bw_listWhole_39 : decode b_Bw_listWhole 39 = .ok (.getfield 64, 3) := by decide +kernel
theorem d_Bw_listWhole_42 : decode b_Bw_listWhole 42 = .ok (.iload_n 1, 1) := by decide +kernel
theorem d_Bw_listWhole_43 : decode b_Bw_listWhole 43 = .ok (.aaload, 1) := by decide +kernel
theorem d_Bw_listWhole_44 : decode b_Bw_listWhole 44 = .ok (.iconst 0, 1) := by decide +kernel
theorem d_Bw_listWhole_45 : decode b_Bw_listWhole 45 = .ok (.iaload, 1) := by decide +kernel
theorem d_Bw_listWhole_46 : decode b_Bw_listWhole 46 = .ok (.i2l, 1) := by decide +kernel
theorem d_Bw_listWhole_47 : decode b_Bw_listWhole 47 = .ok (.iconst 0, 1) := by decide +kernel
theorem d_Bw_listWhole_48 : decode b_Bw_listWhole 48 = .ok (.aload_n 0, 1) := by decide +kernel
theorem d_Bw_listWhole_49 : decode b_Bw_listWhole 49 = .ok (.iconst 0, 1) := by decide +kernel
theorem d_Bw_listWhole_50 : decode b_Bw_listWhole 50 = .ok (.iload_n 1, 1) := by decide +kernel
theorem d_Bw_listWhole_51 : decode b_Bw_listWhole 51 = .ok (.invokevirtual 68, 3) := by decide +kernel
theorem d_Bw_listWhole_54 : decode b_Bw_listWhole 54 = .ok (.invokestatic 72, 3) := by decide +kernel
theorem d_Bw_listWhole_57 : decode b_Bw_listWhole 57 = .ok (.iinc 1 1, 3) := by decide +kernel
theorem d_Bw_listWhole_60 : decode b_Bw_listWhole 60 = .ok (.goto (-40), 3) := by decide +kernel
theorem d_Bw_listWhole_63 : decode b_Bw_listWhole 63 = .ok (.return_, 1) := by decide +kernel
