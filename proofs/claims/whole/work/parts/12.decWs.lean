theorem d_Ws_init_0 : decode b_Ws_init 0 = .ok (.aload_n 0, 1) := by decide +kernel
theorem d_Ws_init_1 : decode b_Ws_init 1 = .ok (.invokespecial 3, 3) := by decide +kernel
theorem d_Ws_init_4 : decode b_Ws_init 4 = .ok (.aload_n 0, 1) := by decide +kernel
theorem d_Ws_init_5 : decode b_Ws_init 5 = .ok (.bipush 6, 2) := by decide +kernel
theorem d_Ws_init_7 : decode b_Ws_init 7 = .ok (.iconst 4, 1) := by decide +kernel
theorem d_Ws_init_8 : decode b_Ws_init 8 = .ok (.multianewarray 9 2, 4) := by decide +kernel
theorem d_Ws_init_12 : decode b_Ws_init 12 = .ok (.putfield 11, 3) := by decide +kernel
theorem d_Ws_init_15 : decode b_Ws_init 15 = .ok (.aload_n 0, 1) := by decide +kernel
theorem d_Ws_init_16 : decode b_Ws_init 16 = .ok (.bipush 6, 2) := by decide +kernel
theorem d_Ws_init_18 : decode b_Ws_init 18 = .ok (.iconst 4, 1) := by decide +kernel
theorem d_Ws_init_19 : decode b_Ws_init 19 = .ok (.multianewarray 9 2, 4) := by decide +kernel
theorem d_Ws_init_23 : decode b_Ws_init 23 = .ok (.putfield 16, 3) := by decide +kernel
theorem d_Ws_init_26 : decode b_Ws_init 26 = .ok (.aload_n 0, 1) := by decide +kernel
theorem d_Ws_init_27 : decode b_Ws_init 27 = .ok (.bipush 7, 2) := by decide +kernel
theorem d_Ws_init_29 : decode b_Ws_init 29 = .ok (.iconst 4, 1) := by decide +kernel
theorem d_Ws_init_30 : decode b_Ws_init 30 = .ok (.multianewarray 9 2, 4) := by decide +kernel
theorem d_Ws_init_34 : decode b_Ws_init 34 = .ok (.putfield 19, 3) := by decide +kernel
theorem d_Ws_init_37 : decode b_Ws_init 37 = .ok (.aload_n 0, 1) := by decide +kernel
theorem d_Ws_init_38 : decode b_Ws_init 38 = .ok (.bipush 7, 2) := by decide +kernel
theorem d_Ws_init_40 : decode b_Ws_init 40 = .ok (.iconst 4, 1) := by decide +kernel
theorem d_Ws_init_41 : decode b_Ws_init 41 = .ok (.multianewarray 9 2, 4) := by decide +kernel
theorem d_Ws_init_45 : decode b_Ws_init 45 = .ok (.putfield 22, 3) := by decide +kernel
theorem d_Ws_init_48 : decode b_Ws_init 48 = .ok (.aload_n 0, 1) := by decide +kernel
theorem d_Ws_init_49 : decode b_Ws_init 49 = .ok (.bipush 6, 2) := by decide +kernel
theorem d_Ws_init_51 : decode b_Ws_init 51 = .ok (.iconst 4, 1) := by decide +kernel
theorem d_Ws_init_52 : decode b_Ws_init 52 = .ok (.multianewarray 9 2, 4) := by decide +kernel
theorem d_Ws_init_56 : decode b_Ws_init 56 = .ok (.putfield 25, 3) := by decide +kernel
theorem d_Ws_init_59 : decode b_Ws_init 59 = .ok (.aload_n 0, 1) := by decide +kernel
theorem d_Ws_init_60 : decode b_Ws_init 60 = .ok (.iconst 0, 1) := by decide +kernel
theorem d_Ws_init_61 : decode b_Ws_init 61 = .ok (.putfield 28, 3) := by decide +kernel
theorem d_Ws_init_64 : decode b_Ws_init 64 = .ok (.aload_n 0, 1) := by decide +kernel
theorem d_Ws_init_65 : decode b_Ws_init 65 = .ok (.aload_n 1, 1) := by decide +kernel
theorem d_Ws_init_66 : decode b_Ws_init 66 = .ok (.putfield 32, 3) := by decide +kernel
theorem d_Ws_init_69 : decode b_Ws_init 69 = .ok (.aload_n 0, 1) := by decide +kernel
theorem d_Ws_init_70 : decode b_Ws_init 70 = .ok (.aload_n 2, 1) := by decide +kernel
theorem d_Ws_init_71 : decode b_Ws_init 71 = .ok (.putfield 36, 3) := by decide +kernel
theorem d_Ws_init_74 : decode b_Ws_init 74 = .ok (.aload_n 0, 1) := by decide +kernel
theorem d_Ws_init_75 : decode b_Ws_init 75 = .ok (.iload_n 3, 1) := by decide +kernel
theorem d_Ws_init_76 : decode b_Ws_init 76 = .ok (.putfield 40, 3) := by decide +kernel
theorem d_Ws_init_79 : decode b_Ws_init 79 = .ok (.return_, 1) := by decide +kernel
theorem d_Ws_whole_0 : decode b_Ws_whole 0 = .ok (.aload_n 0, 1) := by decide +kernel
theorem d_Ws_whole_1 : decode b_Ws_whole 1 = .ok (.invokevirtual 44, 3) := by decide +kernel
theorem d_Ws_whole_4 : decode b_Ws_whole 4 = .ok (.lconst 0, 1) := by decide +kernel
theorem d_Ws_whole_5 : decode b_Ws_whole 5 = .ok (.lstore_n 1, 1) := by decide +kernel
theorem d_Ws_whole_6 : decode b_Ws_whole 6 = .ok (.aload_n 0, 1) := by decide +kernel
theorem d_Ws_whole_7 : decode b_Ws_whole 7 = .ok (.getfield 32, 3) := by decide +kernel
theorem d_Ws_whole_10 : decode b_Ws_whole 10 = .ok (.getfield 47, 3) := by decide +kernel
theorem d_Ws_whole_13 : decode b_Ws_whole 13 = .ok (.ifCond .le 42, 3) := by decide +kernel
theorem d_Ws_whole_16 : decode b_Ws_whole 16 = .ok (.iconst 0, 1) := by decide +kernel
theorem d_Ws_whole_17 : decode b_Ws_whole 17 = .ok (.istore_n 3, 1) := by decide +kernel
theorem d_Ws_whole_18 : decode b_Ws_whole 18 = .ok (.iload_n 3, 1) := by decide +kernel
theorem d_Ws_whole_19 : decode b_Ws_whole 19 = .ok (.aload_n 0, 1) := by decide +kernel
theorem d_Ws_whole_20 : decode b_Ws_whole 20 = .ok (.getfield 36, 3) := by decide +kernel
theorem d_Ws_whole_23 : decode b_Ws_whole 23 = .ok (.getfield 52, 3) := by decide +kernel
theorem d_Ws_whole_26 : decode b_Ws_whole 26 = .ok (.if_icmp .ge 29, 3) := by decide +kernel
theorem d_Ws_whole_29 : decode b_Ws_whole 29 = .ok (.lload_n 1, 1) := by decide +kernel
theorem d_Ws_whole_30 : decode b_Ws_whole 30 = .ok (.aload_n 0, 1) := by decide +kernel
theorem d_Ws_whole_31 : decode b_Ws_whole 31 = .ok (.getfield 25, 3) := by decide +kernel
theorem d_Ws_whole_34 : decode b_Ws_whole 34 = .ok (.iconst 0, 1) := by decide +kernel
theorem d_Ws_whole_35 : decode b_Ws_whole 35 = .ok (.aaload, 1) := by decide +kernel
theorem d_Ws_whole_36 : decode b_Ws_whole 36 = .ok (.iload_n 3, 1) := by decide +kernel
theorem d_Ws_whole_37 : decode b_Ws_whole 37 = .ok (.laload, 1) := by decide +kernel
theorem d_Ws_whole_38 : decode b_Ws_whole 38 = .ok (.aload_n 0, 1) := by decide +kernel
theorem d_Ws_whole_39 : decode b_Ws_whole 39 = .ok (.getfield 16, 3) := by decide +kernel
theorem d_Ws_whole_42 : decode b_Ws_whole 42 = .ok (.iconst 0, 1) := by decide +kernel
theorem d_Ws_whole_43 : decode b_Ws_whole 43 = .ok (.aaload, 1) := by decide +kernel
theorem d_Ws_whole_44 : decode b_Ws_whole 44 = .ok (.iload_n 3, 1) := by decide +kernel
theorem d_Ws_whole_45 : decode b_Ws_whole 45 = .ok (.laload, 1) := by decide +kernel
theorem d_Ws_whole_46 : decode b_Ws_whole 46 = .ok (.lmul, 1) := by decide +kernel
theorem d_Ws_whole_47 : decode b_Ws_whole 47 = .ok (.ladd, 1) := by decide +kernel
theorem d_Ws_whole_48 : decode b_Ws_whole 48 = .ok (.lstore_n 1, 1) := by decide +kernel
theorem d_Ws_whole_49 : decode b_Ws_whole 49 = .ok (.iinc 3 1, 3) := by decide +kernel
theorem d_Ws_whole_52 : decode b_Ws_whole 52 = .ok (.goto (-34), 3) := by decide +kernel
theorem d_Ws_whole_55 : decode b_Ws_whole 55 = .ok (.lload_n 1, 1) := by decide +kernel
theorem d_Ws_whole_56 : decode b_Ws_whole 56 = .ok (.lreturn, 1) := by decide +kernel
theorem d_Ws_refresh_0 : decode b_Ws_refresh 0 = .ok (.aload_n 0, 1) := by decide +kernel
theorem d_Ws_refresh_1 : decode b_Ws_refresh 1 = .ok (.getfield 28, 3) := by decide +kernel
theorem d_Ws_refresh_4 : decode b_Ws_refresh 4 = .ok (.ifCond .eq 4, 3) := by decide +kernel
theorem d_Ws_refresh_7 : decode b_Ws_refresh 7 = .ok (.return_, 1) := by decide +kernel
theorem d_Ws_refresh_8 : decode b_Ws_refresh 8 = .ok (.aload_n 0, 1) := by decide +kernel
theorem d_Ws_refresh_9 : decode b_Ws_refresh 9 = .ok (.iconst 1, 1) := by decide +kernel
theorem d_Ws_refresh_10 : decode b_Ws_refresh 10 = .ok (.putfield 28, 3) := by decide +kernel
theorem d_Ws_refresh_13 : decode b_Ws_refresh 13 = .ok (.aload_n 0, 1) := by decide +kernel
theorem d_Ws_refresh_14 : decode b_Ws_refresh 14 = .ok (.invokevirtual 81, 3) := by decide +kernel
theorem d_Ws_refresh_17 : decode b_Ws_refresh 17 = .ok (.aload_n 0, 1) := by decide +kernel
theorem d_Ws_refresh_18 : decode b_Ws_refresh 18 = .ok (.invokevirtual 84, 3) := by decide +kernel
theorem d_Ws_refresh_21 : decode b_Ws_refresh 21 = .ok (.aload_n 0, 1) := by decide +kernel
theorem d_Ws_refresh_22 : decode b_Ws_refresh 22 = .ok (.invokevirtual 87, 3) := by decide +kernel
theorem d_Ws_refresh_25 : decode b_Ws_refresh 25 = .ok (.return_, 1) := by decide +kernel
theorem d_Ws_showPlaces_0 : decode b_Ws_showPlaces 0 = .ok (.iconst 0, 1) := by decide +kernel
theorem d_Ws_showPlaces_1 : decode b_Ws_showPlaces 1 = .ok (.istore_n 1, 1) := by decide +kernel
theorem d_Ws_showPlaces_2 : decode b_Ws_showPlaces 2 = .ok (.iload_n 1, 1) := by decide +kernel
theorem d_Ws_showPlaces_3 : decode b_Ws_showPlaces 3 = .ok (.aload_n 0, 1) := by decide +kernel
theorem d_Ws_showPlaces_4 : decode b_Ws_showPlaces 4 = .ok (.getfield 32, 3) := by decide +kernel
theorem d_Ws_showPlaces_7 : decode b_Ws_showPlaces 7 = .ok (.getfield 47, 3) := by decide +kernel
theorem d_Ws_showPlaces_10 : decode b_Ws_showPlaces 10 = .ok (.if_icmp .ge 42, 3) := by decide +kernel
theorem d_Ws_showPlaces_13 : decode b_Ws_showPlaces 13 = .ok (.iconst 0, 1) := by decide +kernel
theorem d_Ws_showPlaces_14 : decode b_Ws_showPlaces 14 = .ok (.istore_n 2, 1) := by decide +kernel
theorem d_Ws_showPlaces_15 : decode b_Ws_showPlaces 15 = .ok (.iload_n 2, 1) := by decide +kernel
theorem d_Ws_showPlaces_16 : decode b_Ws_showPlaces 16 = .ok (.aload_n 0, 1) := by decide +kernel
theorem d_Ws_showPlaces_17 : decode b_Ws_showPlaces 17 = .ok (.getfield 36, 3) := by decide +kernel
theorem d_Ws_showPlaces_20 : decode b_Ws_showPlaces 20 = .ok (.getfield 52, 3) := by decide +kernel
theorem d_Ws_showPlaces_23 : decode b_Ws_showPlaces 23 = .ok (.if_icmp .ge 23, 3) := by decide +kernel
theorem d_Ws_showPlaces_26 : decode b_Ws_showPlaces 26 = .ok (.aload_n 0, 1) := by decide +kernel
theorem d_Ws_showPlaces_27 : decode b_Ws_showPlaces 27 = .ok (.getfield 11, 3) := by decide +kernel
theorem d_Ws_showPlaces_30 : decode b_Ws_showPlaces 30 = .ok (.iload_n 1, 1) := by decide +kernel
theorem d_Ws_showPlaces_31 : decode b_Ws_showPlaces 31 = .ok (.aaload, 1) := by decide +kernel
theorem d_Ws_showPlaces_32 : decode b_Ws_showPlaces 32 = .ok (.iload_n 2, 1) := by decide +kernel
theorem d_Ws_showPlaces_33 : decode b_Ws_showPlaces 33 = .ok (.aload_n 0, 1) := by decide +kernel
theorem d_Ws_showPlaces_34 : decode b_Ws_showPlaces 34 = .ok (.iload_n 1, 1) := by decide +kernel
theorem d_Ws_showPlaces_35 : decode b_Ws_showPlaces 35 = .ok (.iload_n 2, 1) := by decide +kernel
theorem d_Ws_showPlaces_36 : decode b_Ws_showPlaces 36 = .ok (.invokevirtual 90, 3) := by decide +kernel
theorem d_Ws_showPlaces_39 : decode b_Ws_showPlaces 39 = .ok (.lastore, 1) := by decide +kernel
theorem d_Ws_showPlaces_40 : decode b_Ws_showPlaces 40 = .ok (.iinc 2 1, 3) := by decide +kernel
theorem d_Ws_showPlaces_43 : decode b_Ws_showPlaces 43 = .ok (.goto (-28), 3) := by decide +kernel
theorem d_Ws_showPlaces_46 : decode b_Ws_showPlaces 46 = .ok (.iinc 1 1, 3) := by decide +kernel
theorem d_Ws_showPlaces_49 : decode b_Ws_showPlaces 49 = .ok (.goto (-47), 3) := by decide +kernel
theorem d_Ws_showPlaces_52 : decode b_Ws_showPlaces 52 = .ok (.return_, 1) := by decide +kernel
theorem d_Ws_showOf_0 : decode b_Ws_showOf 0 = .ok (.aload_n 0, 1) := by decide +kernel
theorem d_Ws_showOf_1 : decode b_Ws_showOf 1 = .ok (.getfield 32, 3) := by decide +kernel
theorem d_Ws_showOf_4 : decode b_Ws_showOf 4 = .ok (.getfield 94, 3) := by decide +kernel
theorem d_Ws_showOf_7 : decode b_Ws_showOf 7 = .ok (.iload_n 1, 1) := by decide +kernel
theorem d_Ws_showOf_8 : decode b_Ws_showOf 8 = .ok (.iaload, 1) := by decide +kernel
theorem d_Ws_showOf_9 : decode b_Ws_showOf 9 = .ok (.istore_n 3, 1) := by decide +kernel
theorem d_Ws_showOf_10 : decode b_Ws_showOf 10 = .ok (.iload_n 3, 1) := by decide +kernel
theorem d_Ws_showOf_11 : decode b_Ws_showOf 11 = .ok (.iconst (-1), 1) := by decide +kernel
theorem d_Ws_showOf_12 : decode b_Ws_showOf 12 = .ok (.if_icmp .eq 10, 3) := by decide +kernel
theorem d_Ws_showOf_15 : decode b_Ws_showOf 15 = .ok (.iload_n 3, 1) := by decide +kernel
theorem d_Ws_showOf_16 : decode b_Ws_showOf 16 = .ok (.iload_n 2, 1) := by decide +kernel
theorem d_Ws_showOf_17 : decode b_Ws_showOf 17 = .ok (.if_icmp .eq 5, 3) := by decide +kernel
theorem d_Ws_showOf_20 : decode b_Ws_showOf 20 = .ok (.lconst 0, 1) := by decide +kernel
theorem d_Ws_showOf_21 : decode b_Ws_showOf 21 = .ok (.lreturn, 1) := by decide +kernel
theorem d_Ws_showOf_22 : decode b_Ws_showOf 22 = .ok (.aload_n 0, 1) := by decide +kernel
theorem d_Ws_showOf_23 : decode b_Ws_showOf 23 = .ok (.getfield 32, 3) := by decide +kernel
theorem d_Ws_showOf_26 : decode b_Ws_showOf 26 = .ok (.getfield 98, 3) := by decide +kernel
theorem d_Ws_showOf_29 : decode b_Ws_showOf 29 = .ok (.iload_n 1, 1) := by decide +kernel
theorem d_Ws_showOf_30 : decode b_Ws_showOf 30 = .ok (.iaload, 1) := by decide +kernel
theorem d_Ws_showOf_31 : decode b_Ws_showOf 31 = .ok (.istore 4, 2) := by decide +kernel
theorem d_Ws_showOf_33 : decode b_Ws_showOf 33 = .ok (.iload 4, 2) := by decide +kernel
theorem d_Ws_showOf_35 : decode b_Ws_showOf 35 = .ok (.iconst (-1), 1) := by decide +kernel
theorem d_Ws_showOf_36 : decode b_Ws_showOf 36 = .ok (.if_icmp .eq 22, 3) := by decide +kernel
theorem d_Ws_showOf_39 : decode b_Ws_showOf 39 = .ok (.aload_n 0, 1) := by decide +kernel
theorem d_Ws_showOf_40 : decode b_Ws_showOf 40 = .ok (.aload_n 0, 1) := by decide +kernel
theorem d_Ws_showOf_41 : decode b_Ws_showOf 41 = .ok (.getfield 36, 3) := by decide +kernel
theorem d_Ws_showOf_44 : decode b_Ws_showOf 44 = .ok (.getfield 78, 3) := by decide +kernel
theorem d_Ws_showOf_47 : decode b_Ws_showOf 47 = .ok (.iload_n 2, 1) := by decide +kernel
theorem d_Ws_showOf_48 : decode b_Ws_showOf 48 = .ok (.aaload, 1) := by decide +kernel
theorem d_Ws_showOf_49 : decode b_Ws_showOf 49 = .ok (.iconst 5, 1) := by decide +kernel
theorem d_Ws_showOf_50 : decode b_Ws_showOf 50 = .ok (.iload 4, 2) := by decide +kernel
theorem d_Ws_showOf_52 : decode b_Ws_showOf 52 = .ok (.iadd, 1) := by decide +kernel
theorem d_Ws_showOf_53 : decode b_Ws_showOf 53 = .ok (.iaload, 1) := by decide +kernel
theorem d_Ws_showOf_54 : decode b_Ws_showOf 54 = .ok (.invokevirtual 71, 3) := by decide +kernel
theorem d_Ws_showOf_57 : decode b_Ws_showOf 57 = .ok (.lreturn, 1) := by decide +kernel
theorem d_Ws_showOf_58 : decode b_Ws_showOf 58 = .ok (.iconst 0, 1) := by decide +kernel
theorem d_Ws_showOf_59 : decode b_Ws_showOf 59 = .ok (.istore 5, 2) := by decide +kernel
theorem d_Ws_showOf_61 : decode b_Ws_showOf 61 = .ok (.iconst 0, 1) := by decide +kernel
theorem d_Ws_showOf_62 : decode b_Ws_showOf 62 = .ok (.istore 6, 2) := by decide +kernel
theorem d_Ws_showOf_64 : decode b_Ws_showOf 64 = .ok (.iload 6, 2) := by decide +kernel
theorem d_Ws_showOf_66 : decode b_Ws_showOf 66 = .ok (.iconst 4, 1) := by decide +kernel
theorem d_Ws_showOf_67 : decode b_Ws_showOf 67 = .ok (.if_icmp .ge 28, 3) := by decide +kernel
theorem d_Ws_showOf_70 : decode b_Ws_showOf 70 = .ok (.iload 5, 2) := by decide +kernel
theorem d_Ws_showOf_72 : decode b_Ws_showOf 72 = .ok (.aload_n 0, 1) := by decide +kernel
theorem d_Ws_showOf_73 : decode b_Ws_showOf 73 = .ok (.getfield 36, 3) := by decide +kernel
theorem d_Ws_showOf_76 : decode b_Ws_showOf 76 = .ok (.getfield 78, 3) := by decide +kernel
theorem d_Ws_showOf_79 : decode b_Ws_showOf 79 = .ok (.iload_n 2, 1) := by decide +kernel
theorem d_Ws_showOf_80 : decode b_Ws_showOf 80 = .ok (.aaload, 1) := by decide +kernel
theorem d_Ws_showOf_81 : decode b_Ws_showOf 81 = .ok (.iconst 5, 1) := by decide +kernel
theorem d_Ws_showOf_82 : decode b_Ws_showOf 82 = .ok (.iload 6, 2) := by decide +kernel
theorem d_Ws_showOf_84 : decode b_Ws_showOf 84 = .ok (.iadd, 1) := by decide +kernel
theorem d_Ws_showOf_85 : decode b_Ws_showOf 85 = .ok (.iaload, 1) := by decide +kernel
theorem d_Ws_showOf_86 : decode b_Ws_showOf 86 = .ok (.iadd, 1) := by decide +kernel
theorem d_Ws_showOf_87 : decode b_Ws_showOf 87 = .ok (.istore 5, 2) := by decide +kernel
theorem d_Ws_showOf_89 : decode b_Ws_showOf 89 = .ok (.iinc 6 1, 3) := by decide +kernel
theorem d_Ws_showOf_92 : decode b_Ws_showOf 92 = .ok (.goto (-28), 3) := by decide +kernel
theorem d_Ws_showOf_95 : decode b_Ws_showOf 95 = .ok (.aload_n 0, 1) := by decide +kernel
theorem d_Ws_showOf_96 : decode b_Ws_showOf 96 = .ok (.iload 5, 2) := by decide +kernel
theorem d_Ws_showOf_98 : decode b_Ws_showOf 98 = .ok (.invokevirtual 71, 3) := by decide +kernel
theorem d_Ws_showOf_101 : decode b_Ws_showOf 101 = .ok (.lreturn, 1) := by decide +kernel
theorem d_Ws_cut_0 : decode b_Ws_cut 0 = .ok (.iload_n 1, 1) := by decide +kernel
theorem d_Ws_cut_1 : decode b_Ws_cut 1 = .ok (.aload_n 0, 1) := by decide +kernel
theorem d_Ws_cut_2 : decode b_Ws_cut 2 = .ok (.getfield 40, 3) := by decide +kernel
theorem d_Ws_cut_5 : decode b_Ws_cut 5 = .ok (.if_icmp .ge 8, 3) := by decide +kernel
theorem d_Ws_cut_8 : decode b_Ws_cut 8 = .ok (.iload_n 1, 1) := by decide +kernel
theorem d_Ws_cut_9 : decode b_Ws_cut 9 = .ok (.i2l, 1) := by decide +kernel
theorem d_Ws_cut_10 : decode b_Ws_cut 10 = .ok (.goto 8, 3) := by decide +kernel
theorem d_Ws_cut_13 : decode b_Ws_cut 13 = .ok (.aload_n 0, 1) := by decide +kernel
theorem d_Ws_cut_14 : decode b_Ws_cut 14 = .ok (.getfield 40, 3) := by decide +kernel
theorem d_Ws_cut_17 : decode b_Ws_cut 17 = .ok (.i2l, 1) := by decide +kernel
theorem d_Ws_cut_18 : decode b_Ws_cut 18 = .ok (.lreturn, 1) := by decide +kernel
theorem d_Ws_sumFromBehind_0 : decode b_Ws_sumFromBehind 0 = .ok (.iconst 0, 1) := by decide +kernel
theorem d_Ws_sumFromBehind_1 : decode b_Ws_sumFromBehind 1 = .ok (.istore_n 1, 1) := by decide +kernel
theorem d_Ws_sumFromBehind_2 : decode b_Ws_sumFromBehind 2 = .ok (.iload_n 1, 1) := by decide +kernel
theorem d_Ws_sumFromBehind_3 : decode b_Ws_sumFromBehind 3 = .ok (.aload_n 0, 1) := by decide +kernel
theorem d_Ws_sumFromBehind_4 : decode b_Ws_sumFromBehind 4 = .ok (.getfield 36, 3) := by decide +kernel
theorem d_Ws_sumFromBehind_7 : decode b_Ws_sumFromBehind 7 = .ok (.getfield 52, 3) := by decide +kernel
theorem d_Ws_sumFromBehind_10 : decode b_Ws_sumFromBehind 10 = .ok (.if_icmp .ge 38, 3) := by decide +kernel
theorem d_Ws_sumFromBehind_13 : decode b_Ws_sumFromBehind 13 = .ok (.aload_n 0, 1) := by decide +kernel
theorem d_Ws_sumFromBehind_14 : decode b_Ws_sumFromBehind 14 = .ok (.getfield 19, 3) := by decide +kernel
theorem d_Ws_sumFromBehind_17 : decode b_Ws_sumFromBehind 17 = .ok (.aload_n 0, 1) := by decide +kernel
theorem d_Ws_sumFromBehind_18 : decode b_Ws_sumFromBehind 18 = .ok (.getfield 32, 3) := by decide +kernel
theorem d_Ws_sumFromBehind_21 : decode b_Ws_sumFromBehind 21 = .ok (.getfield 47, 3) := by decide +kernel
theorem d_Ws_sumFromBehind_24 : decode b_Ws_sumFromBehind 24 = .ok (.aaload, 1) := by decide +kernel
theorem d_Ws_sumFromBehind_25 : decode b_Ws_sumFromBehind 25 = .ok (.iload_n 1, 1) := by decide +kernel
theorem d_Ws_sumFromBehind_26 : decode b_Ws_sumFromBehind 26 = .ok (.aload_n 0, 1) := by decide +kernel
theorem d_Ws_sumFromBehind_27 : decode b_Ws_sumFromBehind 27 = .ok (.aload_n 0, 1) := by decide +kernel
theorem d_Ws_sumFromBehind_28 : decode b_Ws_sumFromBehind 28 = .ok (.getfield 36, 3) := by decide +kernel
theorem d_Ws_sumFromBehind_31 : decode b_Ws_sumFromBehind 31 = .ok (.getfield 78, 3) := by decide +kernel
theorem d_Ws_sumFromBehind_34 : decode b_Ws_sumFromBehind 34 = .ok (.iload_n 1, 1) := by decide +kernel
theorem d_Ws_sumFromBehind_35 : decode b_Ws_sumFromBehind 35 = .ok (.aaload, 1) := by decide +kernel
theorem d_Ws_sumFromBehind_36 : decode b_Ws_sumFromBehind 36 = .ok (.iconst 1, 1) := by decide +kernel
theorem d_Ws_sumFromBehind_37 : decode b_Ws_sumFromBehind 37 = .ok (.iaload, 1) := by decide +kernel
theorem d_Ws_sumFromBehind_38 : decode b_Ws_sumFromBehind 38 = .ok (.invokevirtual 71, 3) := by decide +kernel
theorem d_Ws_sumFromBehind_41 : decode b_Ws_sumFromBehind 41 = .ok (.lastore, 1) := by decide +kernel
theorem d_Ws_sumFromBehind_42 : decode b_Ws_sumFromBehind 42 = .ok (.iinc 1 1, 3) := by decide +kernel
theorem d_Ws_sumFromBehind_45 : decode b_Ws_sumFromBehind 45 = .ok (.goto (-43), 3) := by decide +kernel
theorem d_Ws_sumFromBehind_48 : decode b_Ws_sumFromBehind 48 = .ok (.aload_n 0, 1) := by decide +kernel
theorem d_Ws_sumFromBehind_49 : decode b_Ws_sumFromBehind 49 = .ok (.getfield 32, 3) := by decide +kernel
theorem d_Ws_sumFromBehind_52 : decode b_Ws_sumFromBehind 52 = .ok (.getfield 47, 3) := by decide +kernel
theorem d_Ws_sumFromBehind_55 : decode b_Ws_sumFromBehind 55 = .ok (.iconst 1, 1) := by decide +kernel
theorem d_Ws_sumFromBehind_56 : decode b_Ws_sumFromBehind 56 = .ok (.isub, 1) := by decide +kernel
theorem d_Ws_sumFromBehind_57 : decode b_Ws_sumFromBehind 57 = .ok (.istore_n 1, 1) := by decide +kernel
theorem d_Ws_sumFromBehind_58 : decode b_Ws_sumFromBehind 58 = .ok (.iload_n 1, 1) := by decide +kernel
theorem d_Ws_sumFromBehind_59 : decode b_Ws_sumFromBehind 59 = .ok (.ifCond .lt 76, 3) := by decide +kernel
theorem d_Ws_sumFromBehind_62 : decode b_Ws_sumFromBehind 62 = .ok (.iconst 0, 1) := by decide +kernel
theorem d_Ws_sumFromBehind_63 : decode b_Ws_sumFromBehind 63 = .ok (.istore_n 2, 1) := by decide +kernel
theorem d_Ws_sumFromBehind_64 : decode b_Ws_sumFromBehind 64 = .ok (.iload_n 2, 1) := by decide +kernel
theorem d_Ws_sumFromBehind_65 : decode b_Ws_sumFromBehind 65 = .ok (.aload_n 0, 1) := by decide +kernel
theorem d_Ws_sumFromBehind_66 : decode b_Ws_sumFromBehind 66 = .ok (.getfield 36, 3) := by decide +kernel
theorem d_Ws_sumFromBehind_69 : decode b_Ws_sumFromBehind 69 = .ok (.getfield 52, 3) := by decide +kernel
theorem d_Ws_sumFromBehind_72 : decode b_Ws_sumFromBehind 72 = .ok (.if_icmp .ge 24, 3) := by decide +kernel
theorem d_Ws_sumFromBehind_75 : decode b_Ws_sumFromBehind 75 = .ok (.aload_n 0, 1) := by decide +kernel
theorem d_Ws_sumFromBehind_76 : decode b_Ws_sumFromBehind 76 = .ok (.getfield 16, 3) := by decide +kernel
theorem d_Ws_sumFromBehind_79 : decode b_Ws_sumFromBehind 79 = .ok (.iload_n 1, 1) := by decide +kernel
theorem d_Ws_sumFromBehind_80 : decode b_Ws_sumFromBehind 80 = .ok (.aaload, 1) := by decide +kernel
theorem d_Ws_sumFromBehind_81 : decode b_Ws_sumFromBehind 81 = .ok (.iload_n 2, 1) := by decide +kernel
theorem d_Ws_sumFromBehind_82 : decode b_Ws_sumFromBehind 82 = .ok (.aload_n 0, 1) := by decide +kernel
theorem d_Ws_sumFromBehind_83 : decode b_Ws_sumFromBehind 83 = .ok (.iconst 0, 1) := by decide +kernel
theorem d_Ws_sumFromBehind_84 : decode b_Ws_sumFromBehind 84 = .ok (.iload_n 1, 1) := by decide +kernel
theorem d_Ws_sumFromBehind_85 : decode b_Ws_sumFromBehind 85 = .ok (.iload_n 2, 1) := by decide +kernel
theorem d_Ws_sumFromBehind_86 : decode b_Ws_sumFromBehind 86 = .ok (.invokevirtual 63, 3) := by decide +kernel
theorem d_Ws_sumFromBehind_89 : decode b_Ws_sumFromBehind 89 = .ok (.lastore, 1) := by decide +kernel
theorem d_Ws_sumFromBehind_90 : decode b_Ws_sumFromBehind 90 = .ok (.iinc 2 1, 3) := by decide +kernel
theorem d_Ws_sumFromBehind_93 : decode b_Ws_sumFromBehind 93 = .ok (.goto (-29), 3) := by decide +kernel
theorem d_Ws_sumFromBehind_96 : decode b_Ws_sumFromBehind 96 = .ok (.iconst 0, 1) := by decide +kernel
theorem d_Ws_sumFromBehind_97 : decode b_Ws_sumFromBehind 97 = .ok (.istore_n 2, 1) := by decide +kernel
theorem d_Ws_sumFromBehind_98 : decode b_Ws_sumFromBehind 98 = .ok (.iload_n 2, 1) := by decide +kernel
theorem d_Ws_sumFromBehind_99 : decode b_Ws_sumFromBehind 99 = .ok (.aload_n 0, 1) := by decide +kernel
theorem d_Ws_sumFromBehind_100 : decode b_Ws_sumFromBehind 100 = .ok (.getfield 36, 3) := by decide +kernel
theorem d_Ws_sumFromBehind_103 : decode b_Ws_sumFromBehind 103 = .ok (.getfield 52, 3) := by decide +kernel
theorem d_Ws_sumFromBehind_106 : decode b_Ws_sumFromBehind 106 = .ok (.if_icmp .ge 23, 3) := by decide +kernel
theorem d_Ws_sumFromBehind_109 : decode b_Ws_sumFromBehind 109 = .ok (.aload_n 0, 1) := by decide +kernel
theorem d_Ws_sumFromBehind_110 : decode b_Ws_sumFromBehind 110 = .ok (.getfield 19, 3) := by decide +kernel
theorem d_Ws_sumFromBehind_113 : decode b_Ws_sumFromBehind 113 = .ok (.iload_n 1, 1) := by decide +kernel
theorem d_Ws_sumFromBehind_114 : decode b_Ws_sumFromBehind 114 = .ok (.aaload, 1) := by decide +kernel
theorem d_Ws_sumFromBehind_115 : decode b_Ws_sumFromBehind 115 = .ok (.iload_n 2, 1) := by decide +kernel
theorem d_Ws_sumFromBehind_116 : decode b_Ws_sumFromBehind 116 = .ok (.aload_n 0, 1) := by decide +kernel
theorem d_Ws_sumFromBehind_117 : decode b_Ws_sumFromBehind 117 = .ok (.iload_n 1, 1) := by decide +kernel
theorem d_Ws_sumFromBehind_118 : decode b_Ws_sumFromBehind 118 = .ok (.iload_n 2, 1) := by decide +kernel
theorem d_Ws_sumFromBehind_119 : decode b_Ws_sumFromBehind 119 = .ok (.invokevirtual 101, 3) := by decide +kernel
theorem d_Ws_sumFromBehind_122 : decode b_Ws_sumFromBehind 122 = .ok (.lastore, 1) := by decide +kernel
theorem d_Ws_sumFromBehind_123 : decode b_Ws_sumFromBehind 123 = .ok (.iinc 2 1, 3) := by decide +kernel
theorem d_Ws_sumFromBehind_126 : decode b_Ws_sumFromBehind 126 = .ok (.goto (-28), 3) := by decide +kernel
theorem d_Ws_sumFromBehind_129 : decode b_Ws_sumFromBehind 129 = .ok (.iinc 1 (-1), 3) := by decide +kernel
theorem d_Ws_sumFromBehind_132 : decode b_Ws_sumFromBehind 132 = .ok (.goto (-74), 3) := by decide +kernel
theorem d_Ws_sumFromBehind_135 : decode b_Ws_sumFromBehind 135 = .ok (.return_, 1) := by decide +kernel
theorem d_Ws_longerThan_0 : decode b_Ws_longerThan 0 = .ok (.lconst 0, 1) := by decide +kernel
theorem d_Ws_longerThan_1 : decode b_Ws_longerThan 1 = .ok (.lstore 4, 2) := by decide +kernel
theorem d_Ws_longerThan_3 : decode b_Ws_longerThan 3 = .ok (.iload_n 1, 1) := by decide +kernel
theorem d_Ws_longerThan_4 : decode b_Ws_longerThan 4 = .ok (.iconst 1, 1) := by decide +kernel
theorem d_Ws_longerThan_5 : decode b_Ws_longerThan 5 = .ok (.iadd, 1) := by decide +kernel
theorem d_Ws_longerThan_6 : decode b_Ws_longerThan 6 = .ok (.istore 6, 2) := by decide +kernel
theorem d_Ws_longerThan_8 : decode b_Ws_longerThan 8 = .ok (.iload 6, 2) := by decide +kernel
theorem d_Ws_longerThan_10 : decode b_Ws_longerThan 10 = .ok (.iconst 3, 1) := by decide +kernel
theorem d_Ws_longerThan_11 : decode b_Ws_longerThan 11 = .ok (.if_icmp .gt 48, 3) := by decide +kernel
theorem d_Ws_longerThan_14 : decode b_Ws_longerThan 14 = .ok (.iload_n 2, 1) := by decide +kernel
theorem d_Ws_longerThan_15 : decode b_Ws_longerThan 15 = .ok (.iload 6, 2) := by decide +kernel
theorem d_Ws_longerThan_17 : decode b_Ws_longerThan 17 = .ok (.iadd, 1) := by decide +kernel
theorem d_Ws_longerThan_18 : decode b_Ws_longerThan 18 = .ok (.aload_n 0, 1) := by decide +kernel
theorem d_Ws_longerThan_19 : decode b_Ws_longerThan 19 = .ok (.getfield 32, 3) := by decide +kernel
theorem d_Ws_longerThan_22 : decode b_Ws_longerThan 22 = .ok (.getfield 47, 3) := by decide +kernel
theorem d_Ws_longerThan_25 : decode b_Ws_longerThan 25 = .ok (.if_icmp .gt 34, 3) := by decide +kernel
theorem d_Ws_longerThan_28 : decode b_Ws_longerThan 28 = .ok (.lload 4, 2) := by decide +kernel
theorem d_Ws_longerThan_30 : decode b_Ws_longerThan 30 = .ok (.aload_n 0, 1) := by decide +kernel
theorem d_Ws_longerThan_31 : decode b_Ws_longerThan 31 = .ok (.iload_n 2, 1) := by decide +kernel
theorem d_Ws_longerThan_32 : decode b_Ws_longerThan 32 = .ok (.iload 6, 2) := by decide +kernel
theorem d_Ws_longerThan_34 : decode b_Ws_longerThan 34 = .ok (.iload_n 3, 1) := by decide +kernel
theorem d_Ws_longerThan_35 : decode b_Ws_longerThan 35 = .ok (.invokevirtual 75, 3) := by decide +kernel
theorem d_Ws_longerThan_38 : decode b_Ws_longerThan 38 = .ok (.aload_n 0, 1) := by decide +kernel
theorem d_Ws_longerThan_39 : decode b_Ws_longerThan 39 = .ok (.getfield 19, 3) := by decide +kernel
theorem d_Ws_longerThan_42 : decode b_Ws_longerThan 42 = .ok (.iload_n 2, 1) := by decide +kernel
theorem d_Ws_longerThan_43 : decode b_Ws_longerThan 43 = .ok (.iload 6, 2) := by decide +kernel
theorem d_Ws_longerThan_45 : decode b_Ws_longerThan 45 = .ok (.iadd, 1) := by decide +kernel
theorem d_Ws_longerThan_46 : decode b_Ws_longerThan 46 = .ok (.aaload, 1) := by decide +kernel
theorem d_Ws_longerThan_47 : decode b_Ws_longerThan 47 = .ok (.iload_n 3, 1) := by decide +kernel
theorem d_Ws_longerThan_48 : decode b_Ws_longerThan 48 = .ok (.laload, 1) := by decide +kernel
theorem d_Ws_longerThan_49 : decode b_Ws_longerThan 49 = .ok (.lmul, 1) := by decide +kernel
theorem d_Ws_longerThan_50 : decode b_Ws_longerThan 50 = .ok (.ladd, 1) := by decide +kernel
theorem d_Ws_longerThan_51 : decode b_Ws_longerThan 51 = .ok (.lstore 4, 2) := by decide +kernel
theorem d_Ws_longerThan_53 : decode b_Ws_longerThan 53 = .ok (.iinc 6 1, 3) := by decide +kernel
theorem d_Ws_longerThan_56 : decode b_Ws_longerThan 56 = .ok (.goto (-48), 3) := by decide +kernel
theorem d_Ws_longerThan_59 : decode b_Ws_longerThan 59 = .ok (.lload 4, 2) := by decide +kernel
theorem d_Ws_longerThan_61 : decode b_Ws_longerThan 61 = .ok (.lreturn, 1) := by decide +kernel
theorem d_Ws_segment_0 : decode b_Ws_segment 0 = .ok (.aload_n 0, 1) := by decide +kernel
theorem d_Ws_segment_1 : decode b_Ws_segment 1 = .ok (.aload_n 0, 1) := by decide +kernel
theorem d_Ws_segment_2 : decode b_Ws_segment 2 = .ok (.getfield 36, 3) := by decide +kernel
theorem d_Ws_segment_5 : decode b_Ws_segment 5 = .ok (.getfield 78, 3) := by decide +kernel
theorem d_Ws_segment_8 : decode b_Ws_segment 8 = .ok (.iload_n 3, 1) := by decide +kernel
theorem d_Ws_segment_9 : decode b_Ws_segment 9 = .ok (.aaload, 1) := by decide +kernel
theorem d_Ws_segment_10 : decode b_Ws_segment 10 = .ok (.iconst 2, 1) := by decide +kernel
theorem d_Ws_segment_11 : decode b_Ws_segment 11 = .ok (.iload_n 2, 1) := by decide +kernel
theorem d_Ws_segment_12 : decode b_Ws_segment 12 = .ok (.iadd, 1) := by decide +kernel
theorem d_Ws_segment_13 : decode b_Ws_segment 13 = .ok (.iconst 1, 1) := by decide +kernel
theorem d_Ws_segment_14 : decode b_Ws_segment 14 = .ok (.isub, 1) := by decide +kernel
theorem d_Ws_segment_15 : decode b_Ws_segment 15 = .ok (.iaload, 1) := by decide +kernel
theorem d_Ws_segment_16 : decode b_Ws_segment 16 = .ok (.invokevirtual 71, 3) := by decide +kernel
theorem d_Ws_segment_19 : decode b_Ws_segment 19 = .ok (.lstore 4, 2) := by decide +kernel
theorem d_Ws_segment_21 : decode b_Ws_segment 21 = .ok (.iload_n 1, 1) := by decide +kernel
theorem d_Ws_segment_22 : decode b_Ws_segment 22 = .ok (.istore 6, 2) := by decide +kernel
theorem d_Ws_segment_24 : decode b_Ws_segment 24 = .ok (.iload 6, 2) := by decide +kernel
theorem d_Ws_segment_26 : decode b_Ws_segment 26 = .ok (.iload_n 1, 1) := by decide +kernel
theorem d_Ws_segment_27 : decode b_Ws_segment 27 = .ok (.iload_n 2, 1) := by decide +kernel
theorem d_Ws_segment_28 : decode b_Ws_segment 28 = .ok (.iadd, 1) := by decide +kernel
theorem d_Ws_segment_29 : decode b_Ws_segment 29 = .ok (.if_icmp .ge 23, 3) := by decide +kernel
theorem d_Ws_segment_32 : decode b_Ws_segment 32 = .ok (.lload 4, 2) := by decide +kernel
theorem d_Ws_segment_34 : decode b_Ws_segment 34 = .ok (.aload_n 0, 1) := by decide +kernel
theorem d_Ws_segment_35 : decode b_Ws_segment 35 = .ok (.getfield 11, 3) := by decide +kernel
theorem d_Ws_segment_38 : decode b_Ws_segment 38 = .ok (.iload 6, 2) := by decide +kernel
theorem d_Ws_segment_40 : decode b_Ws_segment 40 = .ok (.aaload, 1) := by decide +kernel
theorem d_Ws_segment_41 : decode b_Ws_segment 41 = .ok (.iload_n 3, 1) := by decide +kernel
theorem d_Ws_segment_42 : decode b_Ws_segment 42 = .ok (.laload, 1) := by decide +kernel
theorem d_Ws_segment_43 : decode b_Ws_segment 43 = .ok (.lmul, 1) := by decide +kernel
theorem d_Ws_segment_44 : decode b_Ws_segment 44 = .ok (.lstore 4, 2) := by decide +kernel
theorem d_Ws_segment_46 : decode b_Ws_segment 46 = .ok (.iinc 6 1, 3) := by decide +kernel
theorem d_Ws_segment_49 : decode b_Ws_segment 49 = .ok (.goto (-25), 3) := by decide +kernel
theorem d_Ws_segment_52 : decode b_Ws_segment 52 = .ok (.lload 4, 2) := by decide +kernel
theorem d_Ws_segment_54 : decode b_Ws_segment 54 = .ok (.lreturn, 1) := by decide +kernel
theorem d_Ws_movedOutOf_0 : decode b_Ws_movedOutOf 0 = .ok (.lconst 0, 1) := by decide +kernel
theorem d_Ws_movedOutOf_1 : decode b_Ws_movedOutOf 1 = .ok (.lstore_n 3, 1) := by decide +kernel
theorem d_Ws_movedOutOf_2 : decode b_Ws_movedOutOf 2 = .ok (.iconst 0, 1) := by decide +kernel
theorem d_Ws_movedOutOf_3 : decode b_Ws_movedOutOf 3 = .ok (.istore 5, 2) := by decide +kernel
theorem d_Ws_movedOutOf_5 : decode b_Ws_movedOutOf 5 = .ok (.iload 5, 2) := by decide +kernel
theorem d_Ws_movedOutOf_7 : decode b_Ws_movedOutOf 7 = .ok (.aload_n 0, 1) := by decide +kernel
theorem d_Ws_movedOutOf_8 : decode b_Ws_movedOutOf 8 = .ok (.getfield 36, 3) := by decide +kernel
theorem d_Ws_movedOutOf_11 : decode b_Ws_movedOutOf 11 = .ok (.getfield 52, 3) := by decide +kernel
theorem d_Ws_movedOutOf_14 : decode b_Ws_movedOutOf 14 = .ok (.if_icmp .ge 38, 3) := by decide +kernel
theorem d_Ws_movedOutOf_17 : decode b_Ws_movedOutOf 17 = .ok (.lload_n 3, 1) := by decide +kernel
theorem d_Ws_movedOutOf_18 : decode b_Ws_movedOutOf 18 = .ok (.aload_n 0, 1) := by decide +kernel
theorem d_Ws_movedOutOf_19 : decode b_Ws_movedOutOf 19 = .ok (.aload_n 0, 1) := by decide +kernel
theorem d_Ws_movedOutOf_20 : decode b_Ws_movedOutOf 20 = .ok (.getfield 36, 3) := by decide +kernel
theorem d_Ws_movedOutOf_23 : decode b_Ws_movedOutOf 23 = .ok (.getfield 67, 3) := by decide +kernel
theorem d_Ws_movedOutOf_26 : decode b_Ws_movedOutOf 26 = .ok (.iload_n 2, 1) := by decide +kernel
theorem d_Ws_movedOutOf_27 : decode b_Ws_movedOutOf 27 = .ok (.aaload, 1) := by decide +kernel
theorem d_Ws_movedOutOf_28 : decode b_Ws_movedOutOf 28 = .ok (.iload 5, 2) := by decide +kernel
theorem d_Ws_movedOutOf_30 : decode b_Ws_movedOutOf 30 = .ok (.iaload, 1) := by decide +kernel
theorem d_Ws_movedOutOf_31 : decode b_Ws_movedOutOf 31 = .ok (.invokevirtual 71, 3) := by decide +kernel
theorem d_Ws_movedOutOf_34 : decode b_Ws_movedOutOf 34 = .ok (.aload_n 0, 1) := by decide +kernel
theorem d_Ws_movedOutOf_35 : decode b_Ws_movedOutOf 35 = .ok (.getfield 16, 3) := by decide +kernel
theorem d_Ws_movedOutOf_38 : decode b_Ws_movedOutOf 38 = .ok (.iload_n 1, 1) := by decide +kernel
theorem d_Ws_movedOutOf_39 : decode b_Ws_movedOutOf 39 = .ok (.aaload, 1) := by decide +kernel
theorem d_Ws_movedOutOf_40 : decode b_Ws_movedOutOf 40 = .ok (.iload 5, 2) := by decide +kernel
theorem d_Ws_movedOutOf_42 : decode b_Ws_movedOutOf 42 = .ok (.laload, 1) := by decide +kernel
theorem d_Ws_movedOutOf_43 : decode b_Ws_movedOutOf 43 = .ok (.lmul, 1) := by decide +kernel
theorem d_Ws_movedOutOf_44 : decode b_Ws_movedOutOf 44 = .ok (.ladd, 1) := by decide +kernel
theorem d_Ws_movedOutOf_45 : decode b_Ws_movedOutOf 45 = .ok (.lstore_n 3, 1) := by decide +kernel
theorem d_Ws_movedOutOf_46 : decode b_Ws_movedOutOf 46 = .ok (.iinc 5 1, 3) := by decide +kernel
theorem d_Ws_movedOutOf_49 : decode b_Ws_movedOutOf 49 = .ok (.goto (-44), 3) := by decide +kernel
theorem d_Ws_movedOutOf_52 : decode b_Ws_movedOutOf 52 = .ok (.lload_n 3, 1) := by decide +kernel
theorem d_Ws_movedOutOf_53 : decode b_Ws_movedOutOf 53 = .ok (.lreturn, 1) := by decide +kernel
theorem d_Ws_sumFromAhead_0 : decode b_Ws_sumFromAhead 0 = .ok (.iconst 0, 1) := by decide +kernel
theorem d_Ws_sumFromAhead_1 : decode b_Ws_sumFromAhead 1 = .ok (.istore_n 1, 1) := by decide +kernel
theorem d_Ws_sumFromAhead_2 : decode b_Ws_sumFromAhead 2 = .ok (.iload_n 1, 1) := by decide +kernel
theorem d_Ws_sumFromAhead_3 : decode b_Ws_sumFromAhead 3 = .ok (.aload_n 0, 1) := by decide +kernel
theorem d_Ws_sumFromAhead_4 : decode b_Ws_sumFromAhead 4 = .ok (.getfield 32, 3) := by decide +kernel
theorem d_Ws_sumFromAhead_7 : decode b_Ws_sumFromAhead 7 = .ok (.getfield 47, 3) := by decide +kernel
theorem d_Ws_sumFromAhead_10 : decode b_Ws_sumFromAhead 10 = .ok (.if_icmp .ge 101, 3) := by decide +kernel
theorem d_Ws_sumFromAhead_13 : decode b_Ws_sumFromAhead 13 = .ok (.iconst 0, 1) := by decide +kernel
theorem d_Ws_sumFromAhead_14 : decode b_Ws_sumFromAhead 14 = .ok (.istore_n 2, 1) := by decide +kernel
theorem d_Ws_sumFromAhead_15 : decode b_Ws_sumFromAhead 15 = .ok (.iload_n 2, 1) := by decide +kernel
theorem d_Ws_sumFromAhead_16 : decode b_Ws_sumFromAhead 16 = .ok (.aload_n 0, 1) := by decide +kernel
theorem d_Ws_sumFromAhead_17 : decode b_Ws_sumFromAhead 17 = .ok (.getfield 36, 3) := by decide +kernel
theorem d_Ws_sumFromAhead_20 : decode b_Ws_sumFromAhead 20 = .ok (.getfield 52, 3) := by decide +kernel
theorem d_Ws_sumFromAhead_23 : decode b_Ws_sumFromAhead 23 = .ok (.if_icmp .ge 45, 3) := by decide +kernel
theorem d_Ws_sumFromAhead_26 : decode b_Ws_sumFromAhead 26 = .ok (.aload_n 0, 1) := by decide +kernel
theorem d_Ws_sumFromAhead_27 : decode b_Ws_sumFromAhead 27 = .ok (.getfield 25, 3) := by decide +kernel
theorem d_Ws_sumFromAhead_30 : decode b_Ws_sumFromAhead 30 = .ok (.iload_n 1, 1) := by decide +kernel
theorem d_Ws_sumFromAhead_31 : decode b_Ws_sumFromAhead 31 = .ok (.aaload, 1) := by decide +kernel
theorem d_Ws_sumFromAhead_32 : decode b_Ws_sumFromAhead 32 = .ok (.iload_n 2, 1) := by decide +kernel
theorem d_Ws_sumFromAhead_33 : decode b_Ws_sumFromAhead 33 = .ok (.iload_n 1, 1) := by decide +kernel
theorem d_Ws_sumFromAhead_34 : decode b_Ws_sumFromAhead 34 = .ok (.ifCond .ne 21, 3) := by decide +kernel
theorem d_Ws_sumFromAhead_37 : decode b_Ws_sumFromAhead 37 = .ok (.aload_n 0, 1) := by decide +kernel
theorem d_Ws_sumFromAhead_38 : decode b_Ws_sumFromAhead 38 = .ok (.aload_n 0, 1) := by decide +kernel
theorem d_Ws_sumFromAhead_39 : decode b_Ws_sumFromAhead 39 = .ok (.getfield 36, 3) := by decide +kernel
theorem d_Ws_sumFromAhead_42 : decode b_Ws_sumFromAhead 42 = .ok (.getfield 78, 3) := by decide +kernel
theorem d_Ws_sumFromAhead_45 : decode b_Ws_sumFromAhead 45 = .ok (.iload_n 2, 1) := by decide +kernel
theorem d_Ws_sumFromAhead_46 : decode b_Ws_sumFromAhead 46 = .ok (.aaload, 1) := by decide +kernel
theorem d_Ws_sumFromAhead_47 : decode b_Ws_sumFromAhead 47 = .ok (.iconst 0, 1) := by decide +kernel
theorem d_Ws_sumFromAhead_48 : decode b_Ws_sumFromAhead 48 = .ok (.iaload, 1) := by decide +kernel
theorem d_Ws_sumFromAhead_49 : decode b_Ws_sumFromAhead 49 = .ok (.invokevirtual 71, 3) := by decide +kernel
theorem d_Ws_sumFromAhead_52 : decode b_Ws_sumFromAhead 52 = .ok (.goto 9, 3) := by decide +kernel
theorem d_Ws_sumFromAhead_55 : decode b_Ws_sumFromAhead 55 = .ok (.aload_n 0, 1) := by decide +kernel
theorem d_Ws_sumFromAhead_56 : decode b_Ws_sumFromAhead 56 = .ok (.iload_n 1, 1) := by decide +kernel
theorem d_Ws_sumFromAhead_57 : decode b_Ws_sumFromAhead 57 = .ok (.iload_n 2, 1) := by decide +kernel
theorem d_Ws_sumFromAhead_58 : decode b_Ws_sumFromAhead 58 = .ok (.invokevirtual 104, 3) := by decide +kernel
theorem d_Ws_sumFromAhead_61 : decode b_Ws_sumFromAhead 61 = .ok (.lastore, 1) := by decide +kernel
theorem d_Ws_sumFromAhead_62 : decode b_Ws_sumFromAhead 62 = .ok (.iinc 2 1, 3) := by decide +kernel
theorem d_Ws_sumFromAhead_65 : decode b_Ws_sumFromAhead 65 = .ok (.goto (-50), 3) := by decide +kernel
theorem d_Ws_sumFromAhead_68 : decode b_Ws_sumFromAhead 68 = .ok (.iconst 0, 1) := by decide +kernel
theorem d_Ws_sumFromAhead_69 : decode b_Ws_sumFromAhead 69 = .ok (.istore_n 2, 1) := by decide +kernel
theorem d_Ws_sumFromAhead_70 : decode b_Ws_sumFromAhead 70 = .ok (.iload_n 2, 1) := by decide +kernel
theorem d_Ws_sumFromAhead_71 : decode b_Ws_sumFromAhead 71 = .ok (.aload_n 0, 1) := by decide +kernel
theorem d_Ws_sumFromAhead_72 : decode b_Ws_sumFromAhead 72 = .ok (.getfield 36, 3) := by decide +kernel
theorem d_Ws_sumFromAhead_75 : decode b_Ws_sumFromAhead 75 = .ok (.getfield 52, 3) := by decide +kernel
theorem d_Ws_sumFromAhead_78 : decode b_Ws_sumFromAhead 78 = .ok (.if_icmp .ge 27, 3) := by decide +kernel
theorem d_Ws_sumFromAhead_81 : decode b_Ws_sumFromAhead 81 = .ok (.aload_n 0, 1) := by decide +kernel
theorem d_Ws_sumFromAhead_82 : decode b_Ws_sumFromAhead 82 = .ok (.getfield 22, 3) := by decide +kernel
theorem d_Ws_sumFromAhead_85 : decode b_Ws_sumFromAhead 85 = .ok (.iload_n 1, 1) := by decide +kernel
theorem d_Ws_sumFromAhead_86 : decode b_Ws_sumFromAhead 86 = .ok (.iconst 1, 1) := by decide +kernel
theorem d_Ws_sumFromAhead_87 : decode b_Ws_sumFromAhead 87 = .ok (.iadd, 1) := by decide +kernel
theorem d_Ws_sumFromAhead_88 : decode b_Ws_sumFromAhead 88 = .ok (.aaload, 1) := by decide +kernel
theorem d_Ws_sumFromAhead_89 : decode b_Ws_sumFromAhead 89 = .ok (.iload_n 2, 1) := by decide +kernel
theorem d_Ws_sumFromAhead_90 : decode b_Ws_sumFromAhead 90 = .ok (.aload_n 0, 1) := by decide +kernel
theorem d_Ws_sumFromAhead_91 : decode b_Ws_sumFromAhead 91 = .ok (.iload_n 1, 1) := by decide +kernel
theorem d_Ws_sumFromAhead_92 : decode b_Ws_sumFromAhead 92 = .ok (.iconst 1, 1) := by decide +kernel
theorem d_Ws_sumFromAhead_93 : decode b_Ws_sumFromAhead 93 = .ok (.iadd, 1) := by decide +kernel
theorem d_Ws_sumFromAhead_94 : decode b_Ws_sumFromAhead 94 = .ok (.iload_n 2, 1) := by decide +kernel
theorem d_Ws_sumFromAhead_95 : decode b_Ws_sumFromAhead 95 = .ok (.invokevirtual 107, 3) := by decide +kernel
theorem d_Ws_sumFromAhead_98 : decode b_Ws_sumFromAhead 98 = .ok (.lastore, 1) := by decide +kernel
theorem d_Ws_sumFromAhead_99 : decode b_Ws_sumFromAhead 99 = .ok (.iinc 2 1, 3) := by decide +kernel
theorem d_Ws_sumFromAhead_102 : decode b_Ws_sumFromAhead 102 = .ok (.goto (-32), 3) := by decide +kernel
theorem d_Ws_sumFromAhead_105 : decode b_Ws_sumFromAhead 105 = .ok (.iinc 1 1, 3) := by decide +kernel
theorem d_Ws_sumFromAhead_108 : decode b_Ws_sumFromAhead 108 = .ok (.goto (-106), 3) := by decide +kernel
theorem d_Ws_sumFromAhead_111 : decode b_Ws_sumFromAhead 111 = .ok (.return_, 1) := by decide +kernel
theorem d_Ws_movedInto_0 : decode b_Ws_movedInto 0 = .ok (.lconst 0, 1) := by decide +kernel
theorem d_Ws_movedInto_1 : decode b_Ws_movedInto 1 = .ok (.lstore_n 3, 1) := by decide +kernel
theorem d_Ws_movedInto_2 : decode b_Ws_movedInto 2 = .ok (.iconst 0, 1) := by decide +kernel
theorem d_Ws_movedInto_3 : decode b_Ws_movedInto 3 = .ok (.istore 5, 2) := by decide +kernel
theorem d_Ws_movedInto_5 : decode b_Ws_movedInto 5 = .ok (.iload 5, 2) := by decide +kernel
theorem d_Ws_movedInto_7 : decode b_Ws_movedInto 7 = .ok (.aload_n 0, 1) := by decide +kernel
theorem d_Ws_movedInto_8 : decode b_Ws_movedInto 8 = .ok (.getfield 36, 3) := by decide +kernel
theorem d_Ws_movedInto_11 : decode b_Ws_movedInto 11 = .ok (.getfield 52, 3) := by decide +kernel
theorem d_Ws_movedInto_14 : decode b_Ws_movedInto 14 = .ok (.if_icmp .ge 38, 3) := by decide +kernel
theorem d_Ws_movedInto_17 : decode b_Ws_movedInto 17 = .ok (.lload_n 3, 1) := by decide +kernel
theorem d_Ws_movedInto_18 : decode b_Ws_movedInto 18 = .ok (.aload_n 0, 1) := by decide +kernel
theorem d_Ws_movedInto_19 : decode b_Ws_movedInto 19 = .ok (.getfield 22, 3) := by decide +kernel
theorem d_Ws_movedInto_22 : decode b_Ws_movedInto 22 = .ok (.iload_n 1, 1) := by decide +kernel
theorem d_Ws_movedInto_23 : decode b_Ws_movedInto 23 = .ok (.aaload, 1) := by decide +kernel
theorem d_Ws_movedInto_24 : decode b_Ws_movedInto 24 = .ok (.iload 5, 2) := by decide +kernel
theorem d_Ws_movedInto_26 : decode b_Ws_movedInto 26 = .ok (.laload, 1) := by decide +kernel
theorem d_Ws_movedInto_27 : decode b_Ws_movedInto 27 = .ok (.aload_n 0, 1) := by decide +kernel
theorem d_Ws_movedInto_28 : decode b_Ws_movedInto 28 = .ok (.aload_n 0, 1) := by decide +kernel
theorem d_Ws_movedInto_29 : decode b_Ws_movedInto 29 = .ok (.getfield 36, 3) := by decide +kernel
theorem d_Ws_movedInto_32 : decode b_Ws_movedInto 32 = .ok (.getfield 67, 3) := by decide +kernel
theorem d_Ws_movedInto_35 : decode b_Ws_movedInto 35 = .ok (.iload 5, 2) := by decide +kernel
theorem d_Ws_movedInto_37 : decode b_Ws_movedInto 37 = .ok (.aaload, 1) := by decide +kernel
theorem d_Ws_movedInto_38 : decode b_Ws_movedInto 38 = .ok (.iload_n 2, 1) := by decide +kernel
theorem d_Ws_movedInto_39 : decode b_Ws_movedInto 39 = .ok (.iaload, 1) := by decide +kernel
theorem d_Ws_movedInto_40 : decode b_Ws_movedInto 40 = .ok (.invokevirtual 71, 3) := by decide +kernel
theorem d_Ws_movedInto_43 : decode b_Ws_movedInto 43 = .ok (.lmul, 1) := by decide +kernel
theorem d_Ws_movedInto_44 : decode b_Ws_movedInto 44 = .ok (.ladd, 1) := by decide +kernel
theorem d_Ws_movedInto_45 : decode b_Ws_movedInto 45 = .ok (.lstore_n 3, 1) := by decide +kernel
theorem d_Ws_movedInto_46 : decode b_Ws_movedInto 46 = .ok (.iinc 5 1, 3) := by decide +kernel
theorem d_Ws_movedInto_49 : decode b_Ws_movedInto 49 = .ok (.goto (-44), 3) := by decide +kernel
theorem d_Ws_movedInto_52 : decode b_Ws_movedInto 52 = .ok (.lload_n 3, 1) := by decide +kernel
theorem d_Ws_movedInto_53 : decode b_Ws_movedInto 53 = .ok (.lreturn, 1) := by decide +kernel
theorem d_Ws_endedBefore_0 : decode b_Ws_endedBefore 0 = .ok (.lconst 0, 1) := by decide +kernel
theorem d_Ws_endedBefore_1 : decode b_Ws_endedBefore 1 = .ok (.lstore_n 3, 1) := by decide +kernel
theorem d_Ws_endedBefore_2 : decode b_Ws_endedBefore 2 = .ok (.iconst 1, 1) := by decide +kernel
theorem d_Ws_endedBefore_3 : decode b_Ws_endedBefore 3 = .ok (.istore 5, 2) := by decide +kernel
theorem d_Ws_endedBefore_5 : decode b_Ws_endedBefore 5 = .ok (.iload 5, 2) := by decide +kernel
theorem d_Ws_endedBefore_7 : decode b_Ws_endedBefore 7 = .ok (.iconst 3, 1) := by decide +kernel
theorem d_Ws_endedBefore_8 : decode b_Ws_endedBefore 8 = .ok (.if_icmp .gt 41, 3) := by decide +kernel
theorem d_Ws_endedBefore_11 : decode b_Ws_endedBefore 11 = .ok (.iload 5, 2) := by decide +kernel
theorem d_Ws_endedBefore_13 : decode b_Ws_endedBefore 13 = .ok (.iload_n 1, 1) := by decide +kernel
theorem d_Ws_endedBefore_14 : decode b_Ws_endedBefore 14 = .ok (.if_icmp .gt 35, 3) := by decide +kernel
theorem d_Ws_endedBefore_17 : decode b_Ws_endedBefore 17 = .ok (.lload_n 3, 1) := by decide +kernel
theorem d_Ws_endedBefore_18 : decode b_Ws_endedBefore 18 = .ok (.aload_n 0, 1) := by decide +kernel
theorem d_Ws_endedBefore_19 : decode b_Ws_endedBefore 19 = .ok (.getfield 25, 3) := by decide +kernel
theorem d_Ws_endedBefore_22 : decode b_Ws_endedBefore 22 = .ok (.iload_n 1, 1) := by decide +kernel
theorem d_Ws_endedBefore_23 : decode b_Ws_endedBefore 23 = .ok (.iload 5, 2) := by decide +kernel
theorem d_Ws_endedBefore_25 : decode b_Ws_endedBefore 25 = .ok (.isub, 1) := by decide +kernel
theorem d_Ws_endedBefore_26 : decode b_Ws_endedBefore 26 = .ok (.aaload, 1) := by decide +kernel
theorem d_Ws_endedBefore_27 : decode b_Ws_endedBefore 27 = .ok (.iload_n 2, 1) := by decide +kernel
theorem d_Ws_endedBefore_28 : decode b_Ws_endedBefore 28 = .ok (.laload, 1) := by decide +kernel
theorem d_Ws_endedBefore_29 : decode b_Ws_endedBefore 29 = .ok (.aload_n 0, 1) := by decide +kernel
theorem d_Ws_endedBefore_30 : decode b_Ws_endedBefore 30 = .ok (.iload_n 1, 1) := by decide +kernel
theorem d_Ws_endedBefore_31 : decode b_Ws_endedBefore 31 = .ok (.iload 5, 2) := by decide +kernel
theorem d_Ws_endedBefore_33 : decode b_Ws_endedBefore 33 = .ok (.isub, 1) := by decide +kernel
theorem d_Ws_endedBefore_34 : decode b_Ws_endedBefore 34 = .ok (.iload 5, 2) := by decide +kernel
theorem d_Ws_endedBefore_36 : decode b_Ws_endedBefore 36 = .ok (.iload_n 2, 1) := by decide +kernel
theorem d_Ws_endedBefore_37 : decode b_Ws_endedBefore 37 = .ok (.invokevirtual 75, 3) := by decide +kernel
theorem d_Ws_endedBefore_40 : decode b_Ws_endedBefore 40 = .ok (.lmul, 1) := by decide +kernel
theorem d_Ws_endedBefore_41 : decode b_Ws_endedBefore 41 = .ok (.ladd, 1) := by decide +kernel
theorem d_Ws_endedBefore_42 : decode b_Ws_endedBefore 42 = .ok (.lstore_n 3, 1) := by decide +kernel
theorem d_Ws_endedBefore_43 : decode b_Ws_endedBefore 43 = .ok (.iinc 5 1, 3) := by decide +kernel
theorem d_Ws_endedBefore_46 : decode b_Ws_endedBefore 46 = .ok (.goto (-41), 3) := by decide +kernel
theorem d_Ws_endedBefore_49 : decode b_Ws_endedBefore 49 = .ok (.lload_n 3, 1) := by decide +kernel
theorem d_Ws_endedBefore_50 : decode b_Ws_endedBefore 50 = .ok (.lreturn, 1) := by decide +kernel
theorem d_Ws_over_0 : decode b_Ws_over 0 = .ok (.aload_n 0, 1) := by decide +kernel
theorem d_Ws_over_1 : decode b_Ws_over 1 = .ok (.invokevirtual 44, 3) := by decide +kernel
theorem d_Ws_over_4 : decode b_Ws_over 4 = .ok (.lconst 0, 1) := by decide +kernel
theorem d_Ws_over_5 : decode b_Ws_over 5 = .ok (.lstore_n 3, 1) := by decide +kernel
theorem d_Ws_over_6 : decode b_Ws_over 6 = .ok (.iconst 0, 1) := by decide +kernel
theorem d_Ws_over_7 : decode b_Ws_over 7 = .ok (.iload_n 1, 1) := by decide +kernel
theorem d_Ws_over_8 : decode b_Ws_over 8 = .ok (.iconst 3, 1) := by decide +kernel
theorem d_Ws_over_9 : decode b_Ws_over 9 = .ok (.isub, 1) := by decide +kernel
theorem d_Ws_over_10 : decode b_Ws_over 10 = .ok (.iconst 1, 1) := by decide +kernel
theorem d_Ws_over_11 : decode b_Ws_over 11 = .ok (.iadd, 1) := by decide +kernel
theorem d_Ws_over_12 : decode b_Ws_over 12 = .ok (.invokestatic 57, 3) := by decide +kernel
theorem d_Ws_over_15 : decode b_Ws_over 15 = .ok (.istore 5, 2) := by decide +kernel
theorem d_Ws_over_17 : decode b_Ws_over 17 = .ok (.iload 5, 2) := by decide +kernel
theorem d_Ws_over_19 : decode b_Ws_over 19 = .ok (.iload_n 1, 1) := by decide +kernel
theorem d_Ws_over_20 : decode b_Ws_over 20 = .ok (.if_icmp .gt 33, 3) := by decide +kernel
theorem d_Ws_over_23 : decode b_Ws_over 23 = .ok (.lload_n 3, 1) := by decide +kernel
theorem d_Ws_over_24 : decode b_Ws_over 24 = .ok (.aload_n 0, 1) := by decide +kernel
theorem d_Ws_over_25 : decode b_Ws_over 25 = .ok (.getfield 25, 3) := by decide +kernel
theorem d_Ws_over_28 : decode b_Ws_over 28 = .ok (.iload 5, 2) := by decide +kernel
theorem d_Ws_over_30 : decode b_Ws_over 30 = .ok (.aaload, 1) := by decide +kernel
theorem d_Ws_over_31 : decode b_Ws_over 31 = .ok (.iload_n 2, 1) := by decide +kernel
theorem d_Ws_over_32 : decode b_Ws_over 32 = .ok (.laload, 1) := by decide +kernel
theorem d_Ws_over_33 : decode b_Ws_over 33 = .ok (.aload_n 0, 1) := by decide +kernel
theorem d_Ws_over_34 : decode b_Ws_over 34 = .ok (.iload_n 1, 1) := by decide +kernel
theorem d_Ws_over_35 : decode b_Ws_over 35 = .ok (.iload 5, 2) := by decide +kernel
theorem d_Ws_over_37 : decode b_Ws_over 37 = .ok (.isub, 1) := by decide +kernel
theorem d_Ws_over_38 : decode b_Ws_over 38 = .ok (.iload 5, 2) := by decide +kernel
theorem d_Ws_over_40 : decode b_Ws_over 40 = .ok (.iload_n 2, 1) := by decide +kernel
theorem d_Ws_over_41 : decode b_Ws_over 41 = .ok (.invokevirtual 63, 3) := by decide +kernel
theorem d_Ws_over_44 : decode b_Ws_over 44 = .ok (.lmul, 1) := by decide +kernel
theorem d_Ws_over_45 : decode b_Ws_over 45 = .ok (.ladd, 1) := by decide +kernel
theorem d_Ws_over_46 : decode b_Ws_over 46 = .ok (.lstore_n 3, 1) := by decide +kernel
theorem d_Ws_over_47 : decode b_Ws_over 47 = .ok (.iinc 5 1, 3) := by decide +kernel
theorem d_Ws_over_50 : decode b_Ws_over 50 = .ok (.goto (-33), 3) := by decide +kernel
theorem d_Ws_over_53 : decode b_Ws_over 53 = .ok (.lload_n 3, 1) := by decide +kernel
theorem d_Ws_over_54 : decode b_Ws_over 54 = .ok (.lreturn, 1) := by decide +kernel
theorem d_Ws_beginning_0 : decode b_Ws_beginning 0 = .ok (.aload_n 0, 1) := by decide +kernel
theorem d_Ws_beginning_1 : decode b_Ws_beginning 1 = .ok (.invokevirtual 44, 3) := by decide +kernel
theorem d_Ws_beginning_4 : decode b_Ws_beginning 4 = .ok (.aload_n 0, 1) := by decide +kernel
theorem d_Ws_beginning_5 : decode b_Ws_beginning 5 = .ok (.getfield 25, 3) := by decide +kernel
theorem d_Ws_beginning_8 : decode b_Ws_beginning 8 = .ok (.iload_n 1, 1) := by decide +kernel
theorem d_Ws_beginning_9 : decode b_Ws_beginning 9 = .ok (.aaload, 1) := by decide +kernel
theorem d_Ws_beginning_10 : decode b_Ws_beginning 10 = .ok (.iload_n 2, 1) := by decide +kernel
theorem d_Ws_beginning_11 : decode b_Ws_beginning 11 = .ok (.laload, 1) := by decide +kernel
theorem d_Ws_beginning_12 : decode b_Ws_beginning 12 = .ok (.aload_n 0, 1) := by decide +kernel
theorem d_Ws_beginning_13 : decode b_Ws_beginning 13 = .ok (.getfield 16, 3) := by decide +kernel
theorem d_Ws_beginning_16 : decode b_Ws_beginning 16 = .ok (.iload_n 1, 1) := by decide +kernel
theorem d_Ws_beginning_17 : decode b_Ws_beginning 17 = .ok (.aaload, 1) := by decide +kernel
theorem d_Ws_beginning_18 : decode b_Ws_beginning 18 = .ok (.iload_n 2, 1) := by decide +kernel
theorem d_Ws_beginning_19 : decode b_Ws_beginning 19 = .ok (.laload, 1) := by decide +kernel
theorem d_Ws_beginning_20 : decode b_Ws_beginning 20 = .ok (.lmul, 1) := by decide +kernel
theorem d_Ws_beginning_21 : decode b_Ws_beginning 21 = .ok (.lreturn, 1) := by decide +kernel
theorem d_Ws_moving_0 : decode b_Ws_moving 0 = .ok (.aload_n 0, 1) := by decide +kernel
theorem d_Ws_moving_1 : decode b_Ws_moving 1 = .ok (.invokevirtual 44, 3) := by decide +kernel
theorem d_Ws_moving_4 : decode b_Ws_moving 4 = .ok (.aload_n 0, 1) := by decide +kernel
theorem d_Ws_moving_5 : decode b_Ws_moving 5 = .ok (.getfield 22, 3) := by decide +kernel
theorem d_Ws_moving_8 : decode b_Ws_moving 8 = .ok (.iload_n 1, 1) := by decide +kernel
theorem d_Ws_moving_9 : decode b_Ws_moving 9 = .ok (.aaload, 1) := by decide +kernel
theorem d_Ws_moving_10 : decode b_Ws_moving 10 = .ok (.iload_n 2, 1) := by decide +kernel
theorem d_Ws_moving_11 : decode b_Ws_moving 11 = .ok (.laload, 1) := by decide +kernel
theorem d_Ws_moving_12 : decode b_Ws_moving 12 = .ok (.aload_n 0, 1) := by decide +kernel
theorem d_Ws_moving_13 : decode b_Ws_moving 13 = .ok (.aload_n 0, 1) := by decide +kernel
theorem d_Ws_moving_14 : decode b_Ws_moving 14 = .ok (.getfield 36, 3) := by decide +kernel
theorem d_Ws_moving_17 : decode b_Ws_moving 17 = .ok (.getfield 67, 3) := by decide +kernel
theorem d_Ws_moving_20 : decode b_Ws_moving 20 = .ok (.iload_n 2, 1) := by decide +kernel
theorem d_Ws_moving_21 : decode b_Ws_moving 21 = .ok (.aaload, 1) := by decide +kernel
theorem d_Ws_moving_22 : decode b_Ws_moving 22 = .ok (.iload_n 3, 1) := by decide +kernel
theorem d_Ws_moving_23 : decode b_Ws_moving 23 = .ok (.iaload, 1) := by decide +kernel
theorem d_Ws_moving_24 : decode b_Ws_moving 24 = .ok (.invokevirtual 71, 3) := by decide +kernel
theorem d_Ws_moving_27 : decode b_Ws_moving 27 = .ok (.lmul, 1) := by decide +kernel
theorem d_Ws_moving_28 : decode b_Ws_moving 28 = .ok (.aload_n 0, 1) := by decide +kernel
theorem d_Ws_moving_29 : decode b_Ws_moving 29 = .ok (.getfield 16, 3) := by decide +kernel
theorem d_Ws_moving_32 : decode b_Ws_moving 32 = .ok (.iload_n 1, 1) := by decide +kernel
theorem d_Ws_moving_33 : decode b_Ws_moving 33 = .ok (.aaload, 1) := by decide +kernel
theorem d_Ws_moving_34 : decode b_Ws_moving 34 = .ok (.iload_n 3, 1) := by decide +kernel
theorem d_Ws_moving_35 : decode b_Ws_moving 35 = .ok (.laload, 1) := by decide +kernel
theorem d_Ws_moving_36 : decode b_Ws_moving 36 = .ok (.lmul, 1) := by decide +kernel
theorem d_Ws_moving_37 : decode b_Ws_moving 37 = .ok (.lreturn, 1) := by decide +kernel
