theorem d_Mo_init_0 : decode b_Mo_init 0 = .ok (.aload_n 0, 1) := by decide +kernel
theorem d_Mo_init_1 : decode b_Mo_init 1 = .ok (.invokespecial 1, 3) := by decide +kernel
theorem d_Mo_init_4 : decode b_Mo_init 4 = .ok (.aload_n 0, 1) := by decide +kernel
theorem d_Mo_init_5 : decode b_Mo_init 5 = .ok (.bipush 36, 2) := by decide +kernel
theorem d_Mo_init_7 : decode b_Mo_init 7 = .ok (.newarray .int, 2) := by decide +kernel
theorem d_Mo_init_9 : decode b_Mo_init 9 = .ok (.putfield 7, 3) := by decide +kernel
theorem d_Mo_init_12 : decode b_Mo_init 12 = .ok (.aload_n 0, 1) := by decide +kernel
theorem d_Mo_init_13 : decode b_Mo_init 13 = .ok (.bipush 16, 2) := by decide +kernel
theorem d_Mo_init_15 : decode b_Mo_init 15 = .ok (.newarray .int, 2) := by decide +kernel
theorem d_Mo_init_17 : decode b_Mo_init 17 = .ok (.putfield 13, 3) := by decide +kernel
theorem d_Mo_init_20 : decode b_Mo_init 20 = .ok (.aload_n 0, 1) := by decide +kernel
theorem d_Mo_init_21 : decode b_Mo_init 21 = .ok (.bipush 64, 2) := by decide +kernel
theorem d_Mo_init_23 : decode b_Mo_init 23 = .ok (.newarray .int, 2) := by decide +kernel
theorem d_Mo_init_25 : decode b_Mo_init 25 = .ok (.putfield 16, 3) := by decide +kernel
theorem d_Mo_init_28 : decode b_Mo_init 28 = .ok (.aload_n 0, 1) := by decide +kernel
theorem d_Mo_init_29 : decode b_Mo_init 29 = .ok (.bipush 16, 2) := by decide +kernel
theorem d_Mo_init_31 : decode b_Mo_init 31 = .ok (.newarray .int, 2) := by decide +kernel
theorem d_Mo_init_33 : decode b_Mo_init 33 = .ok (.putfield 19, 3) := by decide +kernel
theorem d_Mo_init_36 : decode b_Mo_init 36 = .ok (.aload_n 0, 1) := by decide +kernel
theorem d_Mo_init_37 : decode b_Mo_init 37 = .ok (.bipush 6, 2) := by decide +kernel
theorem d_Mo_init_39 : decode b_Mo_init 39 = .ok (.newarray .int, 2) := by decide +kernel
theorem d_Mo_init_41 : decode b_Mo_init 41 = .ok (.putfield 22, 3) := by decide +kernel
theorem d_Mo_init_44 : decode b_Mo_init 44 = .ok (.aload_n 0, 1) := by decide +kernel
theorem d_Mo_init_45 : decode b_Mo_init 45 = .ok (.bipush 6, 2) := by decide +kernel
theorem d_Mo_init_47 : decode b_Mo_init 47 = .ok (.newarray .int, 2) := by decide +kernel
theorem d_Mo_init_49 : decode b_Mo_init 49 = .ok (.putfield 25, 3) := by decide +kernel
theorem d_Mo_init_52 : decode b_Mo_init 52 = .ok (.aload_n 0, 1) := by decide +kernel
theorem d_Mo_init_53 : decode b_Mo_init 53 = .ok (.bipush 7, 2) := by decide +kernel
theorem d_Mo_init_55 : decode b_Mo_init 55 = .ok (.newarray .int, 2) := by decide +kernel
theorem d_Mo_init_57 : decode b_Mo_init 57 = .ok (.putfield 28, 3) := by decide +kernel
theorem d_Mo_init_60 : decode b_Mo_init 60 = .ok (.aload_n 0, 1) := by decide +kernel
theorem d_Mo_init_61 : decode b_Mo_init 61 = .ok (.bipush 24, 2) := by decide +kernel
theorem d_Mo_init_63 : decode b_Mo_init 63 = .ok (.newarray .long, 2) := by decide +kernel
theorem d_Mo_init_65 : decode b_Mo_init 65 = .ok (.putfield 31, 3) := by decide +kernel
theorem d_Mo_init_68 : decode b_Mo_init 68 = .ok (.aload_n 0, 1) := by decide +kernel
theorem d_Mo_init_69 : decode b_Mo_init 69 = .ok (.bipush 24, 2) := by decide +kernel
theorem d_Mo_init_71 : decode b_Mo_init 71 = .ok (.newarray .long, 2) := by decide +kernel
theorem d_Mo_init_73 : decode b_Mo_init 73 = .ok (.putfield 35, 3) := by decide +kernel
theorem d_Mo_init_76 : decode b_Mo_init 76 = .ok (.aload_n 0, 1) := by decide +kernel
theorem d_Mo_init_77 : decode b_Mo_init 77 = .ok (.bipush 96, 2) := by decide +kernel
theorem d_Mo_init_79 : decode b_Mo_init 79 = .ok (.newarray .long, 2) := by decide +kernel
theorem d_Mo_init_81 : decode b_Mo_init 81 = .ok (.putfield 38, 3) := by decide +kernel
theorem d_Mo_init_84 : decode b_Mo_init 84 = .ok (.aload_n 0, 1) := by decide +kernel
theorem d_Mo_init_85 : decode b_Mo_init 85 = .ok (.bipush 11, 2) := by decide +kernel
theorem d_Mo_init_87 : decode b_Mo_init 87 = .ok (.newarray .long, 2) := by decide +kernel
theorem d_Mo_init_89 : decode b_Mo_init 89 = .ok (.putfield 41, 3) := by decide +kernel
theorem d_Mo_init_92 : decode b_Mo_init 92 = .ok (.aload_n 0, 1) := by decide +kernel
theorem d_Mo_init_93 : decode b_Mo_init 93 = .ok (.bipush 66, 2) := by decide +kernel
theorem d_Mo_init_95 : decode b_Mo_init 95 = .ok (.newarray .int, 2) := by decide +kernel
theorem d_Mo_init_97 : decode b_Mo_init 97 = .ok (.putfield 44, 3) := by decide +kernel
theorem d_Mo_init_100 : decode b_Mo_init 100 = .ok (.aload_n 0, 1) := by decide +kernel
theorem d_Mo_init_101 : decode b_Mo_init 101 = .ok (.bipush 6, 2) := by decide +kernel
theorem d_Mo_init_103 : decode b_Mo_init 103 = .ok (.newarray .int, 2) := by decide +kernel
theorem d_Mo_init_105 : decode b_Mo_init 105 = .ok (.putfield 47, 3) := by decide +kernel
theorem d_Mo_init_108 : decode b_Mo_init 108 = .ok (.aload_n 0, 1) := by decide +kernel
theorem d_Mo_init_109 : decode b_Mo_init 109 = .ok (.sipush 144, 3) := by decide +kernel
theorem d_Mo_init_112 : decode b_Mo_init 112 = .ok (.newarray .long, 2) := by decide +kernel
theorem d_Mo_init_114 : decode b_Mo_init 114 = .ok (.putfield 50, 3) := by decide +kernel
theorem d_Mo_init_117 : decode b_Mo_init 117 = .ok (.aload_n 0, 1) := by decide +kernel
theorem d_Mo_init_118 : decode b_Mo_init 118 = .ok (.sipush 144, 3) := by decide +kernel
theorem d_Mo_init_121 : decode b_Mo_init 121 = .ok (.newarray .long, 2) := by decide +kernel
theorem d_Mo_init_123 : decode b_Mo_init 123 = .ok (.putfield 53, 3) := by decide +kernel
theorem d_Mo_init_126 : decode b_Mo_init 126 = .ok (.aload_n 0, 1) := by decide +kernel
theorem d_Mo_init_127 : decode b_Mo_init 127 = .ok (.sipush 144, 3) := by decide +kernel
theorem d_Mo_init_130 : decode b_Mo_init 130 = .ok (.newarray .long, 2) := by decide +kernel
theorem d_Mo_init_132 : decode b_Mo_init 132 = .ok (.putfield 56, 3) := by decide +kernel
theorem d_Mo_init_135 : decode b_Mo_init 135 = .ok (.aload_n 0, 1) := by decide +kernel
theorem d_Mo_init_136 : decode b_Mo_init 136 = .ok (.bipush 12, 2) := by decide +kernel
theorem d_Mo_init_138 : decode b_Mo_init 138 = .ok (.newarray .int, 2) := by decide +kernel
theorem d_Mo_init_140 : decode b_Mo_init 140 = .ok (.putfield 59, 3) := by decide +kernel
theorem d_Mo_init_143 : decode b_Mo_init 143 = .ok (.aload_n 0, 1) := by decide +kernel
theorem d_Mo_init_144 : decode b_Mo_init 144 = .ok (.bipush 12, 2) := by decide +kernel
theorem d_Mo_init_146 : decode b_Mo_init 146 = .ok (.newarray .int, 2) := by decide +kernel
theorem d_Mo_init_148 : decode b_Mo_init 148 = .ok (.putfield 62, 3) := by decide +kernel
theorem d_Mo_init_151 : decode b_Mo_init 151 = .ok (.aload_n 0, 1) := by decide +kernel
theorem d_Mo_init_152 : decode b_Mo_init 152 = .ok (.bipush 12, 2) := by decide +kernel
theorem d_Mo_init_154 : decode b_Mo_init 154 = .ok (.newarray .int, 2) := by decide +kernel
theorem d_Mo_init_156 : decode b_Mo_init 156 = .ok (.putfield 65, 3) := by decide +kernel
theorem d_Mo_init_159 : decode b_Mo_init 159 = .ok (.return_, 1) := by decide +kernel
theorem d_Mo_state_0 : decode b_Mo_state 0 = .ok (.aload_n 0, 1) := by decide +kernel
theorem d_Mo_state_1 : decode b_Mo_state 1 = .ok (.getfield 75, 3) := by decide +kernel
theorem d_Mo_state_4 : decode b_Mo_state 4 = .ok (.iconst 4, 1) := by decide +kernel
theorem d_Mo_state_5 : decode b_Mo_state 5 = .ok (.if_icmp .ne 6, 3) := by decide +kernel
theorem d_Mo_state_8 : decode b_Mo_state 8 = .ok (.bipush (-4), 2) := by decide +kernel
theorem d_Mo_state_10 : decode b_Mo_state 10 = .ok (.ireturn, 1) := by decide +kernel
theorem d_Mo_state_11 : decode b_Mo_state 11 = .ok (.iconst 0, 1) := by decide +kernel
theorem d_Mo_state_12 : decode b_Mo_state 12 = .ok (.istore_n 1, 1) := by decide +kernel
theorem d_Mo_state_13 : decode b_Mo_state 13 = .ok (.iload_n 1, 1) := by decide +kernel
theorem d_Mo_state_14 : decode b_Mo_state 14 = .ok (.bipush 9, 2) := by decide +kernel
theorem d_Mo_state_16 : decode b_Mo_state 16 = .ok (.if_icmp .ge 33, 3) := by decide +kernel
theorem d_Mo_state_19 : decode b_Mo_state 19 = .ok (.aload_n 0, 1) := by decide +kernel
theorem d_Mo_state_20 : decode b_Mo_state 20 = .ok (.getfield 7, 3) := by decide +kernel
theorem d_Mo_state_23 : decode b_Mo_state 23 = .ok (.bipush 9, 2) := by decide +kernel
theorem d_Mo_state_25 : decode b_Mo_state 25 = .ok (.aload_n 0, 1) := by decide +kernel
theorem d_Mo_state_26 : decode b_Mo_state 26 = .ok (.getfield 75, 3) := by decide +kernel
theorem d_Mo_state_29 : decode b_Mo_state 29 = .ok (.imul, 1) := by decide +kernel
theorem d_Mo_state_30 : decode b_Mo_state 30 = .ok (.iload_n 1, 1) := by decide +kernel
theorem d_Mo_state_31 : decode b_Mo_state 31 = .ok (.iadd, 1) := by decide +kernel
theorem d_Mo_state_32 : decode b_Mo_state 32 = .ok (.iload_n 1, 1) := by decide +kernel
theorem d_Mo_state_33 : decode b_Mo_state 33 = .ok (.iconst 3, 1) := by decide +kernel
theorem d_Mo_state_34 : decode b_Mo_state 34 = .ok (.if_icmp .ge 7, 3) := by decide +kernel
theorem d_Mo_state_37 : decode b_Mo_state 37 = .ok (.iconst 1, 1) := by decide +kernel
theorem d_Mo_state_38 : decode b_Mo_state 38 = .ok (.goto 4, 3) := by decide +kernel
theorem d_Mo_state_41 : decode b_Mo_state 41 = .ok (.iconst 0, 1) := by decide +kernel
theorem d_Mo_state_42 : decode b_Mo_state 42 = .ok (.iastore, 1) := by decide +kernel
theorem d_Mo_state_43 : decode b_Mo_state 43 = .ok (.iinc 1 1, 3) := by decide +kernel
theorem d_Mo_state_46 : decode b_Mo_state 46 = .ok (.goto (-33), 3) := by decide +kernel
theorem d_Mo_state_49 : decode b_Mo_state 49 = .ok (.iconst 0, 1) := by decide +kernel
theorem d_Mo_state_50 : decode b_Mo_state 50 = .ok (.istore_n 1, 1) := by decide +kernel
theorem d_Mo_state_51 : decode b_Mo_state 51 = .ok (.iload_n 1, 1) := by decide +kernel
theorem d_Mo_state_52 : decode b_Mo_state 52 = .ok (.aload_n 0, 1) := by decide +kernel
theorem d_Mo_state_53 : decode b_Mo_state 53 = .ok (.getfield 75, 3) := by decide +kernel
theorem d_Mo_state_56 : decode b_Mo_state 56 = .ok (.if_icmp .gt 37, 3) := by decide +kernel
theorem d_Mo_state_59 : decode b_Mo_state 59 = .ok (.aload_n 0, 1) := by decide +kernel
theorem d_Mo_state_60 : decode b_Mo_state 60 = .ok (.getfield 13, 3) := by decide +kernel
theorem d_Mo_state_63 : decode b_Mo_state 63 = .ok (.iconst 4, 1) := by decide +kernel
theorem d_Mo_state_64 : decode b_Mo_state 64 = .ok (.aload_n 0, 1) := by decide +kernel
theorem d_Mo_state_65 : decode b_Mo_state 65 = .ok (.getfield 75, 3) := by decide +kernel
theorem d_Mo_state_68 : decode b_Mo_state 68 = .ok (.imul, 1) := by decide +kernel
theorem d_Mo_state_69 : decode b_Mo_state 69 = .ok (.iload_n 1, 1) := by decide +kernel
theorem d_Mo_state_70 : decode b_Mo_state 70 = .ok (.iadd, 1) := by decide +kernel
theorem d_Mo_state_71 : decode b_Mo_state 71 = .ok (.iconst 0, 1) := by decide +kernel
theorem d_Mo_state_72 : decode b_Mo_state 72 = .ok (.iastore, 1) := by decide +kernel
theorem d_Mo_state_73 : decode b_Mo_state 73 = .ok (.aload_n 0, 1) := by decide +kernel
theorem d_Mo_state_74 : decode b_Mo_state 74 = .ok (.getfield 13, 3) := by decide +kernel
theorem d_Mo_state_77 : decode b_Mo_state 77 = .ok (.iconst 4, 1) := by decide +kernel
theorem d_Mo_state_78 : decode b_Mo_state 78 = .ok (.iload_n 1, 1) := by decide +kernel
theorem d_Mo_state_79 : decode b_Mo_state 79 = .ok (.imul, 1) := by decide +kernel
theorem d_Mo_state_80 : decode b_Mo_state 80 = .ok (.aload_n 0, 1) := by decide +kernel
theorem d_Mo_state_81 : decode b_Mo_state 81 = .ok (.getfield 75, 3) := by decide +kernel
theorem d_Mo_state_84 : decode b_Mo_state 84 = .ok (.iadd, 1) := by decide +kernel
theorem d_Mo_state_85 : decode b_Mo_state 85 = .ok (.iconst 0, 1) := by decide +kernel
theorem d_Mo_state_86 : decode b_Mo_state 86 = .ok (.iastore, 1) := by decide +kernel
theorem d_Mo_state_87 : decode b_Mo_state 87 = .ok (.iinc 1 1, 3) := by decide +kernel
theorem d_Mo_state_90 : decode b_Mo_state 90 = .ok (.goto (-39), 3) := by decide +kernel
theorem d_Mo_state_93 : decode b_Mo_state 93 = .ok (.aload_n 0, 1) := by decide +kernel
theorem d_Mo_state_94 : decode b_Mo_state 94 = .ok (.dup, 1) := by decide +kernel
theorem d_Mo_state_95 : decode b_Mo_state 95 = .ok (.getfield 75, 3) := by decide +kernel
theorem d_Mo_state_98 : decode b_Mo_state 98 = .ok (.iconst 1, 1) := by decide +kernel
theorem d_Mo_state_99 : decode b_Mo_state 99 = .ok (.iadd, 1) := by decide +kernel
theorem d_Mo_state_100 : decode b_Mo_state 100 = .ok (.putfield 75, 3) := by decide +kernel
theorem d_Mo_state_103 : decode b_Mo_state 103 = .ok (.aload_n 0, 1) := by decide +kernel
theorem d_Mo_state_104 : decode b_Mo_state 104 = .ok (.invokevirtual 85, 3) := by decide +kernel
theorem d_Mo_state_107 : decode b_Mo_state 107 = .ok (.aload_n 0, 1) := by decide +kernel
theorem d_Mo_state_108 : decode b_Mo_state 108 = .ok (.getfield 75, 3) := by decide +kernel
theorem d_Mo_state_111 : decode b_Mo_state 111 = .ok (.iconst 1, 1) := by decide +kernel
theorem d_Mo_state_112 : decode b_Mo_state 112 = .ok (.isub, 1) := by decide +kernel
theorem d_Mo_state_113 : decode b_Mo_state 113 = .ok (.ireturn, 1) := by decide +kernel
theorem d_Mo_change_0 : decode b_Mo_change 0 = .ok (.aload_n 0, 1) := by decide +kernel
theorem d_Mo_change_1 : decode b_Mo_change 1 = .ok (.iconst 0, 1) := by decide +kernel
theorem d_Mo_change_2 : decode b_Mo_change 2 = .ok (.putfield 68, 3) := by decide +kernel
theorem d_Mo_change_5 : decode b_Mo_change 5 = .ok (.aload_n 0, 1) := by decide +kernel
theorem d_Mo_change_6 : decode b_Mo_change 6 = .ok (.iconst 0, 1) := by decide +kernel
theorem d_Mo_change_7 : decode b_Mo_change 7 = .ok (.putfield 72, 3) := by decide +kernel
theorem d_Mo_change_10 : decode b_Mo_change 10 = .ok (.return_, 1) := by decide +kernel
theorem d_Mo_weight_0 : decode b_Mo_weight 0 = .ok (.aload_n 0, 1) := by decide +kernel
theorem d_Mo_weight_1 : decode b_Mo_weight 1 = .ok (.iload_n 1, 1) := by decide +kernel
theorem d_Mo_weight_2 : decode b_Mo_weight 2 = .ok (.invokevirtual 88, 3) := by decide +kernel
theorem d_Mo_weight_5 : decode b_Mo_weight 5 = .ok (.ifCond .eq 13, 3) := by decide +kernel
theorem d_Mo_weight_8 : decode b_Mo_weight 8 = .ok (.iload_n 2, 1) := by decide +kernel
theorem d_Mo_weight_9 : decode b_Mo_weight 9 = .ok (.ifCond .lt 9, 3) := by decide +kernel
theorem d_Mo_weight_12 : decode b_Mo_weight 12 = .ok (.iload_n 2, 1) := by decide +kernel
theorem d_Mo_weight_13 : decode b_Mo_weight 13 = .ok (.bipush 8, 2) := by decide +kernel
theorem d_Mo_weight_15 : decode b_Mo_weight 15 = .ok (.if_icmp .le 5, 3) := by decide +kernel
theorem d_Mo_weight_18 : decode b_Mo_weight 18 = .ok (.iconst (-1), 1) := by decide +kernel
theorem d_Mo_weight_19 : decode b_Mo_weight 19 = .ok (.ireturn, 1) := by decide +kernel
theorem d_Mo_weight_20 : decode b_Mo_weight 20 = .ok (.iload_n 3, 1) := by decide +kernel
theorem d_Mo_weight_21 : decode b_Mo_weight 21 = .ok (.invokestatic 92, 3) := by decide +kernel
theorem d_Mo_weight_24 : decode b_Mo_weight 24 = .ok (.ifCond .ne 6, 3) := by decide +kernel
theorem d_Mo_weight_27 : decode b_Mo_weight 27 = .ok (.bipush (-2), 2) := by decide +kernel
theorem d_Mo_weight_29 : decode b_Mo_weight 29 = .ok (.ireturn, 1) := by decide +kernel
theorem d_Mo_weight_30 : decode b_Mo_weight 30 = .ok (.aload_n 0, 1) := by decide +kernel
theorem d_Mo_weight_31 : decode b_Mo_weight 31 = .ok (.getfield 7, 3) := by decide +kernel
theorem d_Mo_weight_34 : decode b_Mo_weight 34 = .ok (.bipush 9, 2) := by decide +kernel
theorem d_Mo_weight_36 : decode b_Mo_weight 36 = .ok (.iload_n 1, 1) := by decide +kernel
theorem d_Mo_weight_37 : decode b_Mo_weight 37 = .ok (.imul, 1) := by decide +kernel
theorem d_Mo_weight_38 : decode b_Mo_weight 38 = .ok (.iload_n 2, 1) := by decide +kernel
theorem d_Mo_weight_39 : decode b_Mo_weight 39 = .ok (.iadd, 1) := by decide +kernel
theorem d_Mo_weight_40 : decode b_Mo_weight 40 = .ok (.iaload, 1) := by decide +kernel
theorem d_Mo_weight_41 : decode b_Mo_weight 41 = .ok (.istore 4, 2) := by decide +kernel
theorem d_Mo_weight_43 : decode b_Mo_weight 43 = .ok (.aload_n 0, 1) := by decide +kernel
theorem d_Mo_weight_44 : decode b_Mo_weight 44 = .ok (.getfield 7, 3) := by decide +kernel
theorem d_Mo_weight_47 : decode b_Mo_weight 47 = .ok (.bipush 9, 2) := by decide +kernel
theorem d_Mo_weight_49 : decode b_Mo_weight 49 = .ok (.iload_n 1, 1) := by decide +kernel
theorem d_Mo_weight_50 : decode b_Mo_weight 50 = .ok (.imul, 1) := by decide +kernel
theorem d_Mo_weight_51 : decode b_Mo_weight 51 = .ok (.iload_n 2, 1) := by decide +kernel
theorem d_Mo_weight_52 : decode b_Mo_weight 52 = .ok (.iadd, 1) := by decide +kernel
theorem d_Mo_weight_53 : decode b_Mo_weight 53 = .ok (.iload_n 3, 1) := by decide +kernel
theorem d_Mo_weight_54 : decode b_Mo_weight 54 = .ok (.iastore, 1) := by decide +kernel
theorem d_Mo_weight_55 : decode b_Mo_weight 55 = .ok (.aload_n 0, 1) := by decide +kernel
theorem d_Mo_weight_56 : decode b_Mo_weight 56 = .ok (.invokevirtual 85, 3) := by decide +kernel
theorem d_Mo_weight_59 : decode b_Mo_weight 59 = .ok (.iload 4, 2) := by decide +kernel
theorem d_Mo_weight_61 : decode b_Mo_weight 61 = .ok (.ireturn, 1) := by decide +kernel
theorem d_Mo_isState_0 : decode b_Mo_isState 0 = .ok (.iload_n 1, 1) := by decide +kernel
theorem d_Mo_isState_1 : decode b_Mo_isState 1 = .ok (.ifCond .lt 15, 3) := by decide +kernel
theorem d_Mo_isState_4 : decode b_Mo_isState 4 = .ok (.iload_n 1, 1) := by decide +kernel
theorem d_Mo_isState_5 : decode b_Mo_isState 5 = .ok (.aload_n 0, 1) := by decide +kernel
theorem d_Mo_isState_6 : decode b_Mo_isState 6 = .ok (.getfield 75, 3) := by decide +kernel
theorem d_Mo_isState_9 : decode b_Mo_isState 9 = .ok (.if_icmp .ge 7, 3) := by decide +kernel
theorem d_Mo_isState_12 : decode b_Mo_isState 12 = .ok (.iconst 1, 1) := by decide +kernel
theorem d_Mo_isState_13 : decode b_Mo_isState 13 = .ok (.goto 4, 3) := by decide +kernel
theorem d_Mo_isState_16 : decode b_Mo_isState 16 = .ok (.iconst 0, 1) := by decide +kernel
theorem d_Mo_isState_17 : decode b_Mo_isState 17 = .ok (.ireturn, 1) := by decide +kernel
theorem d_Mo_isWeight_0 : decode b_Mo_isWeight 0 = .ok (.iload_n 0, 1) := by decide +kernel
theorem d_Mo_isWeight_1 : decode b_Mo_isWeight 1 = .ok (.ifCond .lt 12, 3) := by decide +kernel
theorem d_Mo_isWeight_4 : decode b_Mo_isWeight 4 = .ok (.iload_n 0, 1) := by decide +kernel
theorem d_Mo_isWeight_5 : decode b_Mo_isWeight 5 = .ok (.iconst 4, 1) := by decide +kernel
theorem d_Mo_isWeight_6 : decode b_Mo_isWeight 6 = .ok (.if_icmp .gt 7, 3) := by decide +kernel
theorem d_Mo_isWeight_9 : decode b_Mo_isWeight 9 = .ok (.iconst 1, 1) := by decide +kernel
theorem d_Mo_isWeight_10 : decode b_Mo_isWeight 10 = .ok (.goto 4, 3) := by decide +kernel
theorem d_Mo_isWeight_13 : decode b_Mo_isWeight 13 = .ok (.iconst 0, 1) := by decide +kernel
theorem d_Mo_isWeight_14 : decode b_Mo_isWeight 14 = .ok (.ireturn, 1) := by decide +kernel
theorem d_Mo_move_0 : decode b_Mo_move 0 = .ok (.aload_n 0, 1) := by decide +kernel
theorem d_Mo_move_1 : decode b_Mo_move 1 = .ok (.iload_n 1, 1) := by decide +kernel
theorem d_Mo_move_2 : decode b_Mo_move 2 = .ok (.invokevirtual 88, 3) := by decide +kernel
theorem d_Mo_move_5 : decode b_Mo_move 5 = .ok (.ifCond .eq 11, 3) := by decide +kernel
theorem d_Mo_move_8 : decode b_Mo_move 8 = .ok (.aload_n 0, 1) := by decide +kernel
theorem d_Mo_move_9 : decode b_Mo_move 9 = .ok (.iload_n 2, 1) := by decide +kernel
theorem d_Mo_move_10 : decode b_Mo_move 10 = .ok (.invokevirtual 88, 3) := by decide +kernel
theorem d_Mo_move_13 : decode b_Mo_move 13 = .ok (.ifCond .ne 5, 3) := by decide +kernel
theorem d_Mo_move_16 : decode b_Mo_move 16 = .ok (.iconst (-1), 1) := by decide +kernel
theorem d_Mo_move_17 : decode b_Mo_move 17 = .ok (.ireturn, 1) := by decide +kernel
theorem d_Mo_move_18 : decode b_Mo_move 18 = .ok (.iload_n 3, 1) := by decide +kernel
theorem d_Mo_move_19 : decode b_Mo_move 19 = .ok (.invokestatic 92, 3) := by decide +kernel
theorem d_Mo_move_22 : decode b_Mo_move 22 = .ok (.ifCond .ne 6, 3) := by decide +kernel
theorem d_Mo_move_25 : decode b_Mo_move 25 = .ok (.bipush (-2), 2) := by decide +kernel
theorem d_Mo_move_27 : decode b_Mo_move 27 = .ok (.ireturn, 1) := by decide +kernel
theorem d_Mo_move_28 : decode b_Mo_move 28 = .ok (.aload_n 0, 1) := by decide +kernel
theorem d_Mo_move_29 : decode b_Mo_move 29 = .ok (.getfield 13, 3) := by decide +kernel
theorem d_Mo_move_32 : decode b_Mo_move 32 = .ok (.iconst 4, 1) := by decide +kernel
theorem d_Mo_move_33 : decode b_Mo_move 33 = .ok (.iload_n 1, 1) := by decide +kernel
theorem d_Mo_move_34 : decode b_Mo_move 34 = .ok (.imul, 1) := by decide +kernel
theorem d_Mo_move_35 : decode b_Mo_move 35 = .ok (.iload_n 2, 1) := by decide +kernel
theorem d_Mo_move_36 : decode b_Mo_move 36 = .ok (.iadd, 1) := by decide +kernel
theorem d_Mo_move_37 : decode b_Mo_move 37 = .ok (.iaload, 1) := by decide +kernel
theorem d_Mo_move_38 : decode b_Mo_move 38 = .ok (.istore 4, 2) := by decide +kernel
theorem d_Mo_move_40 : decode b_Mo_move 40 = .ok (.aload_n 0, 1) := by decide +kernel
theorem d_Mo_move_41 : decode b_Mo_move 41 = .ok (.getfield 13, 3) := by decide +kernel
theorem d_Mo_move_44 : decode b_Mo_move 44 = .ok (.iconst 4, 1) := by decide +kernel
theorem d_Mo_move_45 : decode b_Mo_move 45 = .ok (.iload_n 1, 1) := by decide +kernel
theorem d_Mo_move_46 : decode b_Mo_move 46 = .ok (.imul, 1) := by decide +kernel
theorem d_Mo_move_47 : decode b_Mo_move 47 = .ok (.iload_n 2, 1) := by decide +kernel
theorem d_Mo_move_48 : decode b_Mo_move 48 = .ok (.iadd, 1) := by decide +kernel
theorem d_Mo_move_49 : decode b_Mo_move 49 = .ok (.iload_n 3, 1) := by decide +kernel
theorem d_Mo_move_50 : decode b_Mo_move 50 = .ok (.iastore, 1) := by decide +kernel
theorem d_Mo_move_51 : decode b_Mo_move 51 = .ok (.aload_n 0, 1) := by decide +kernel
theorem d_Mo_move_52 : decode b_Mo_move 52 = .ok (.invokevirtual 85, 3) := by decide +kernel
theorem d_Mo_move_55 : decode b_Mo_move 55 = .ok (.iload 4, 2) := by decide +kernel
theorem d_Mo_move_57 : decode b_Mo_move 57 = .ok (.ireturn, 1) := by decide +kernel
theorem d_Mo_kind_0 : decode b_Mo_kind 0 = .ok (.aload_n 0, 1) := by decide +kernel
theorem d_Mo_kind_1 : decode b_Mo_kind 1 = .ok (.getfield 79, 3) := by decide +kernel
theorem d_Mo_kind_4 : decode b_Mo_kind 4 = .ok (.iconst 4, 1) := by decide +kernel
theorem d_Mo_kind_5 : decode b_Mo_kind 5 = .ok (.if_icmp .ne 6, 3) := by decide +kernel
theorem d_Mo_kind_8 : decode b_Mo_kind 8 = .ok (.bipush (-4), 2) := by decide +kernel
theorem d_Mo_kind_10 : decode b_Mo_kind 10 = .ok (.ireturn, 1) := by decide +kernel
theorem d_Mo_kind_11 : decode b_Mo_kind 11 = .ok (.aload_n 0, 1) := by decide +kernel
theorem d_Mo_kind_12 : decode b_Mo_kind 12 = .ok (.dup, 1) := by decide +kernel
theorem d_Mo_kind_13 : decode b_Mo_kind 13 = .ok (.getfield 79, 3) := by decide +kernel
theorem d_Mo_kind_16 : decode b_Mo_kind 16 = .ok (.iconst 1, 1) := by decide +kernel
theorem d_Mo_kind_17 : decode b_Mo_kind 17 = .ok (.iadd, 1) := by decide +kernel
theorem d_Mo_kind_18 : decode b_Mo_kind 18 = .ok (.putfield 79, 3) := by decide +kernel
theorem d_Mo_kind_21 : decode b_Mo_kind 21 = .ok (.aload_n 0, 1) := by decide +kernel
theorem d_Mo_kind_22 : decode b_Mo_kind 22 = .ok (.getfield 79, 3) := by decide +kernel
theorem d_Mo_kind_25 : decode b_Mo_kind 25 = .ok (.iconst 1, 1) := by decide +kernel
theorem d_Mo_kind_26 : decode b_Mo_kind 26 = .ok (.isub, 1) := by decide +kernel
theorem d_Mo_kind_27 : decode b_Mo_kind 27 = .ok (.ireturn, 1) := by decide +kernel
theorem d_Mo_rule_0 : decode b_Mo_rule 0 = .ok (.aload_n 0, 1) := by decide +kernel
theorem d_Mo_rule_1 : decode b_Mo_rule 1 = .ok (.iload_n 1, 1) := by decide +kernel
theorem d_Mo_rule_2 : decode b_Mo_rule 2 = .ok (.invokevirtual 95, 3) := by decide +kernel
theorem d_Mo_rule_5 : decode b_Mo_rule 5 = .ok (.ifCond .eq 19, 3) := by decide +kernel
theorem d_Mo_rule_8 : decode b_Mo_rule 8 = .ok (.aload_n 0, 1) := by decide +kernel
theorem d_Mo_rule_9 : decode b_Mo_rule 9 = .ok (.iload_n 2, 1) := by decide +kernel
theorem d_Mo_rule_10 : decode b_Mo_rule 10 = .ok (.invokevirtual 95, 3) := by decide +kernel
theorem d_Mo_rule_13 : decode b_Mo_rule 13 = .ok (.ifCond .eq 11, 3) := by decide +kernel
theorem d_Mo_rule_16 : decode b_Mo_rule 16 = .ok (.aload_n 0, 1) := by decide +kernel
theorem d_Mo_rule_17 : decode b_Mo_rule 17 = .ok (.iload_n 3, 1) := by decide +kernel
theorem d_Mo_rule_18 : decode b_Mo_rule 18 = .ok (.invokevirtual 95, 3) := by decide +kernel
theorem d_Mo_rule_21 : decode b_Mo_rule 21 = .ok (.ifCond .ne 5, 3) := by decide +kernel
theorem d_Mo_rule_24 : decode b_Mo_rule 24 = .ok (.iconst (-1), 1) := by decide +kernel
theorem d_Mo_rule_25 : decode b_Mo_rule 25 = .ok (.ireturn, 1) := by decide +kernel
theorem d_Mo_rule_26 : decode b_Mo_rule 26 = .ok (.iload 4, 2) := by decide +kernel
theorem d_Mo_rule_28 : decode b_Mo_rule 28 = .ok (.invokestatic 92, 3) := by decide +kernel
theorem d_Mo_rule_31 : decode b_Mo_rule 31 = .ok (.ifCond .ne 6, 3) := by decide +kernel
theorem d_Mo_rule_34 : decode b_Mo_rule 34 = .ok (.bipush (-2), 2) := by decide +kernel
theorem d_Mo_rule_36 : decode b_Mo_rule 36 = .ok (.ireturn, 1) := by decide +kernel
theorem d_Mo_rule_37 : decode b_Mo_rule 37 = .ok (.aload_n 0, 1) := by decide +kernel
theorem d_Mo_rule_38 : decode b_Mo_rule 38 = .ok (.getfield 16, 3) := by decide +kernel
theorem d_Mo_rule_41 : decode b_Mo_rule 41 = .ok (.bipush 16, 2) := by decide +kernel
theorem d_Mo_rule_43 : decode b_Mo_rule 43 = .ok (.iload_n 1, 1) := by decide +kernel
theorem d_Mo_rule_44 : decode b_Mo_rule 44 = .ok (.imul, 1) := by decide +kernel
theorem d_Mo_rule_45 : decode b_Mo_rule 45 = .ok (.iconst 4, 1) := by decide +kernel
theorem d_Mo_rule_46 : decode b_Mo_rule 46 = .ok (.iload_n 2, 1) := by decide +kernel
theorem d_Mo_rule_47 : decode b_Mo_rule 47 = .ok (.imul, 1) := by decide +kernel
theorem d_Mo_rule_48 : decode b_Mo_rule 48 = .ok (.iadd, 1) := by decide +kernel
theorem d_Mo_rule_49 : decode b_Mo_rule 49 = .ok (.iload_n 3, 1) := by decide +kernel
theorem d_Mo_rule_50 : decode b_Mo_rule 50 = .ok (.iadd, 1) := by decide +kernel
theorem d_Mo_rule_51 : decode b_Mo_rule 51 = .ok (.iaload, 1) := by decide +kernel
theorem d_Mo_rule_52 : decode b_Mo_rule 52 = .ok (.istore 5, 2) := by decide +kernel
theorem d_Mo_rule_54 : decode b_Mo_rule 54 = .ok (.aload_n 0, 1) := by decide +kernel
theorem d_Mo_rule_55 : decode b_Mo_rule 55 = .ok (.getfield 16, 3) := by decide +kernel
theorem d_Mo_rule_58 : decode b_Mo_rule 58 = .ok (.bipush 16, 2) := by decide +kernel
theorem d_Mo_rule_60 : decode b_Mo_rule 60 = .ok (.iload_n 1, 1) := by decide +kernel
theorem d_Mo_rule_61 : decode b_Mo_rule 61 = .ok (.imul, 1) := by decide +kernel
theorem d_Mo_rule_62 : decode b_Mo_rule 62 = .ok (.iconst 4, 1) := by decide +kernel
theorem d_Mo_rule_63 : decode b_Mo_rule 63 = .ok (.iload_n 2, 1) := by decide +kernel
theorem d_Mo_rule_64 : decode b_Mo_rule 64 = .ok (.imul, 1) := by decide +kernel
theorem d_Mo_rule_65 : decode b_Mo_rule 65 = .ok (.iadd, 1) := by decide +kernel
theorem d_Mo_rule_66 : decode b_Mo_rule 66 = .ok (.iload_n 3, 1) := by decide +kernel
theorem d_Mo_rule_67 : decode b_Mo_rule 67 = .ok (.iadd, 1) := by decide +kernel
theorem d_Mo_rule_68 : decode b_Mo_rule 68 = .ok (.iload 4, 2) := by decide +kernel
theorem d_Mo_rule_70 : decode b_Mo_rule 70 = .ok (.iastore, 1) := by decide +kernel
theorem d_Mo_rule_71 : decode b_Mo_rule 71 = .ok (.iload 5, 2) := by decide +kernel
theorem d_Mo_rule_73 : decode b_Mo_rule 73 = .ok (.ireturn, 1) := by decide +kernel
theorem d_Mo_isKind_0 : decode b_Mo_isKind 0 = .ok (.iload_n 1, 1) := by decide +kernel
theorem d_Mo_isKind_1 : decode b_Mo_isKind 1 = .ok (.ifCond .lt 15, 3) := by decide +kernel
theorem d_Mo_isKind_4 : decode b_Mo_isKind 4 = .ok (.iload_n 1, 1) := by decide +kernel
theorem d_Mo_isKind_5 : decode b_Mo_isKind 5 = .ok (.aload_n 0, 1) := by decide +kernel
theorem d_Mo_isKind_6 : decode b_Mo_isKind 6 = .ok (.getfield 79, 3) := by decide +kernel
theorem d_Mo_isKind_9 : decode b_Mo_isKind 9 = .ok (.if_icmp .ge 7, 3) := by decide +kernel
theorem d_Mo_isKind_12 : decode b_Mo_isKind 12 = .ok (.iconst 1, 1) := by decide +kernel
theorem d_Mo_isKind_13 : decode b_Mo_isKind 13 = .ok (.goto 4, 3) := by decide +kernel
theorem d_Mo_isKind_16 : decode b_Mo_isKind 16 = .ok (.iconst 0, 1) := by decide +kernel
theorem d_Mo_isKind_17 : decode b_Mo_isKind 17 = .ok (.ireturn, 1) := by decide +kernel
theorem d_Mo_leaf_0 : decode b_Mo_leaf 0 = .ok (.aload_n 0, 1) := by decide +kernel
theorem d_Mo_leaf_1 : decode b_Mo_leaf 1 = .ok (.iload_n 1, 1) := by decide +kernel
theorem d_Mo_leaf_2 : decode b_Mo_leaf 2 = .ok (.invokevirtual 95, 3) := by decide +kernel
theorem d_Mo_leaf_5 : decode b_Mo_leaf 5 = .ok (.ifCond .eq 12, 3) := by decide +kernel
theorem d_Mo_leaf_8 : decode b_Mo_leaf 8 = .ok (.iload_n 2, 1) := by decide +kernel
theorem d_Mo_leaf_9 : decode b_Mo_leaf 9 = .ok (.ifCond .lt 8, 3) := by decide +kernel
theorem d_Mo_leaf_12 : decode b_Mo_leaf 12 = .ok (.iload_n 2, 1) := by decide +kernel
theorem d_Mo_leaf_13 : decode b_Mo_leaf 13 = .ok (.iconst 3, 1) := by decide +kernel
theorem d_Mo_leaf_14 : decode b_Mo_leaf 14 = .ok (.if_icmp .le 5, 3) := by decide +kernel
theorem d_Mo_leaf_17 : decode b_Mo_leaf 17 = .ok (.iconst (-1), 1) := by decide +kernel
theorem d_Mo_leaf_18 : decode b_Mo_leaf 18 = .ok (.ireturn, 1) := by decide +kernel
theorem d_Mo_leaf_19 : decode b_Mo_leaf 19 = .ok (.iload_n 3, 1) := by decide +kernel
theorem d_Mo_leaf_20 : decode b_Mo_leaf 20 = .ok (.invokestatic 92, 3) := by decide +kernel
theorem d_Mo_leaf_23 : decode b_Mo_leaf 23 = .ok (.ifCond .ne 6, 3) := by decide +kernel
theorem d_Mo_leaf_26 : decode b_Mo_leaf 26 = .ok (.bipush (-2), 2) := by decide +kernel
theorem d_Mo_leaf_28 : decode b_Mo_leaf 28 = .ok (.ireturn, 1) := by decide +kernel
theorem d_Mo_leaf_29 : decode b_Mo_leaf 29 = .ok (.aload_n 0, 1) := by decide +kernel
theorem d_Mo_leaf_30 : decode b_Mo_leaf 30 = .ok (.getfield 19, 3) := by decide +kernel
theorem d_Mo_leaf_33 : decode b_Mo_leaf 33 = .ok (.iconst 4, 1) := by decide +kernel
theorem d_Mo_leaf_34 : decode b_Mo_leaf 34 = .ok (.iload_n 1, 1) := by decide +kernel
theorem d_Mo_leaf_35 : decode b_Mo_leaf 35 = .ok (.imul, 1) := by decide +kernel
theorem d_Mo_leaf_36 : decode b_Mo_leaf 36 = .ok (.iload_n 2, 1) := by decide +kernel
theorem d_Mo_leaf_37 : decode b_Mo_leaf 37 = .ok (.iadd, 1) := by decide +kernel
theorem d_Mo_leaf_38 : decode b_Mo_leaf 38 = .ok (.iaload, 1) := by decide +kernel
theorem d_Mo_leaf_39 : decode b_Mo_leaf 39 = .ok (.istore 4, 2) := by decide +kernel
theorem d_Mo_leaf_41 : decode b_Mo_leaf 41 = .ok (.aload_n 0, 1) := by decide +kernel
theorem d_Mo_leaf_42 : decode b_Mo_leaf 42 = .ok (.getfield 19, 3) := by decide +kernel
theorem d_Mo_leaf_45 : decode b_Mo_leaf 45 = .ok (.iconst 4, 1) := by decide +kernel
theorem d_Mo_leaf_46 : decode b_Mo_leaf 46 = .ok (.iload_n 1, 1) := by decide +kernel
theorem d_Mo_leaf_47 : decode b_Mo_leaf 47 = .ok (.imul, 1) := by decide +kernel
theorem d_Mo_leaf_48 : decode b_Mo_leaf 48 = .ok (.iload_n 2, 1) := by decide +kernel
theorem d_Mo_leaf_49 : decode b_Mo_leaf 49 = .ok (.iadd, 1) := by decide +kernel
theorem d_Mo_leaf_50 : decode b_Mo_leaf 50 = .ok (.iload_n 3, 1) := by decide +kernel
theorem d_Mo_leaf_51 : decode b_Mo_leaf 51 = .ok (.iastore, 1) := by decide +kernel
theorem d_Mo_leaf_52 : decode b_Mo_leaf 52 = .ok (.iload 4, 2) := by decide +kernel
theorem d_Mo_leaf_54 : decode b_Mo_leaf 54 = .ok (.ireturn, 1) := by decide +kernel
theorem d_Mo_sign_0 : decode b_Mo_sign 0 = .ok (.iload_n 1, 1) := by decide +kernel
theorem d_Mo_sign_1 : decode b_Mo_sign 1 = .ok (.iconst (-1), 1) := by decide +kernel
theorem d_Mo_sign_2 : decode b_Mo_sign 2 = .ok (.if_icmp .lt 8, 3) := by decide +kernel
theorem d_Mo_sign_5 : decode b_Mo_sign 5 = .ok (.iload_n 1, 1) := by decide +kernel
theorem d_Mo_sign_6 : decode b_Mo_sign 6 = .ok (.iconst 3, 1) := by decide +kernel
theorem d_Mo_sign_7 : decode b_Mo_sign 7 = .ok (.if_icmp .le 6, 3) := by decide +kernel
theorem d_Mo_sign_10 : decode b_Mo_sign 10 = .ok (.bipush (-2), 2) := by decide +kernel
theorem d_Mo_sign_12 : decode b_Mo_sign 12 = .ok (.ireturn, 1) := by decide +kernel
theorem d_Mo_sign_13 : decode b_Mo_sign 13 = .ok (.aload_n 0, 1) := by decide +kernel
theorem d_Mo_sign_14 : decode b_Mo_sign 14 = .ok (.getfield 82, 3) := by decide +kernel
theorem d_Mo_sign_17 : decode b_Mo_sign 17 = .ok (.bipush 6, 2) := by decide +kernel
theorem d_Mo_sign_19 : decode b_Mo_sign 19 = .ok (.if_icmp .ne 6, 3) := by decide +kernel
theorem d_Mo_sign_22 : decode b_Mo_sign 22 = .ok (.bipush (-4), 2) := by decide +kernel
theorem d_Mo_sign_24 : decode b_Mo_sign 24 = .ok (.ireturn, 1) := by decide +kernel
theorem d_Mo_sign_25 : decode b_Mo_sign 25 = .ok (.aload_n 0, 1) := by decide +kernel
theorem d_Mo_sign_26 : decode b_Mo_sign 26 = .ok (.getfield 22, 3) := by decide +kernel
theorem d_Mo_sign_29 : decode b_Mo_sign 29 = .ok (.aload_n 0, 1) := by decide +kernel
theorem d_Mo_sign_30 : decode b_Mo_sign 30 = .ok (.getfield 82, 3) := by decide +kernel
theorem d_Mo_sign_33 : decode b_Mo_sign 33 = .ok (.iload_n 1, 1) := by decide +kernel
theorem d_Mo_sign_34 : decode b_Mo_sign 34 = .ok (.iastore, 1) := by decide +kernel
theorem d_Mo_sign_35 : decode b_Mo_sign 35 = .ok (.aload_n 0, 1) := by decide +kernel
theorem d_Mo_sign_36 : decode b_Mo_sign 36 = .ok (.getfield 25, 3) := by decide +kernel
theorem d_Mo_sign_39 : decode b_Mo_sign 39 = .ok (.aload_n 0, 1) := by decide +kernel
theorem d_Mo_sign_40 : decode b_Mo_sign 40 = .ok (.getfield 82, 3) := by decide +kernel
theorem d_Mo_sign_43 : decode b_Mo_sign 43 = .ok (.iconst (-1), 1) := by decide +kernel
theorem d_Mo_sign_44 : decode b_Mo_sign 44 = .ok (.iastore, 1) := by decide +kernel
theorem d_Mo_sign_45 : decode b_Mo_sign 45 = .ok (.aload_n 0, 1) := by decide +kernel
theorem d_Mo_sign_46 : decode b_Mo_sign 46 = .ok (.dup, 1) := by decide +kernel
theorem d_Mo_sign_47 : decode b_Mo_sign 47 = .ok (.getfield 82, 3) := by decide +kernel
theorem d_Mo_sign_50 : decode b_Mo_sign 50 = .ok (.iconst 1, 1) := by decide +kernel
theorem d_Mo_sign_51 : decode b_Mo_sign 51 = .ok (.iadd, 1) := by decide +kernel
theorem d_Mo_sign_52 : decode b_Mo_sign 52 = .ok (.putfield 82, 3) := by decide +kernel
theorem d_Mo_sign_55 : decode b_Mo_sign 55 = .ok (.aload_n 0, 1) := by decide +kernel
theorem d_Mo_sign_56 : decode b_Mo_sign 56 = .ok (.invokevirtual 85, 3) := by decide +kernel
theorem d_Mo_sign_59 : decode b_Mo_sign 59 = .ok (.aload_n 0, 1) := by decide +kernel
theorem d_Mo_sign_60 : decode b_Mo_sign 60 = .ok (.getfield 82, 3) := by decide +kernel
theorem d_Mo_sign_63 : decode b_Mo_sign 63 = .ok (.ireturn, 1) := by decide +kernel
theorem d_Mo_clear_0 : decode b_Mo_clear 0 = .ok (.aload_n 0, 1) := by decide +kernel
theorem d_Mo_clear_1 : decode b_Mo_clear 1 = .ok (.getfield 82, 3) := by decide +kernel
theorem d_Mo_clear_4 : decode b_Mo_clear 4 = .ok (.istore_n 1, 1) := by decide +kernel
theorem d_Mo_clear_5 : decode b_Mo_clear 5 = .ok (.aload_n 0, 1) := by decide +kernel
theorem d_Mo_clear_6 : decode b_Mo_clear 6 = .ok (.iconst 0, 1) := by decide +kernel
theorem d_Mo_clear_7 : decode b_Mo_clear 7 = .ok (.putfield 82, 3) := by decide +kernel
theorem d_Mo_clear_10 : decode b_Mo_clear 10 = .ok (.aload_n 0, 1) := by decide +kernel
theorem d_Mo_clear_11 : decode b_Mo_clear 11 = .ok (.invokevirtual 85, 3) := by decide +kernel
theorem d_Mo_clear_14 : decode b_Mo_clear 14 = .ok (.iload_n 1, 1) := by decide +kernel
theorem d_Mo_clear_15 : decode b_Mo_clear 15 = .ok (.ireturn, 1) := by decide +kernel
theorem d_Mo_hold_0 : decode b_Mo_hold 0 = .ok (.aload_n 0, 1) := by decide +kernel
theorem d_Mo_hold_1 : decode b_Mo_hold 1 = .ok (.iload_n 1, 1) := by decide +kernel
theorem d_Mo_hold_2 : decode b_Mo_hold 2 = .ok (.invokevirtual 98, 3) := by decide +kernel
theorem d_Mo_hold_5 : decode b_Mo_hold 5 = .ok (.ifCond .eq 16, 3) := by decide +kernel
theorem d_Mo_hold_8 : decode b_Mo_hold 8 = .ok (.iload_n 2, 1) := by decide +kernel
theorem d_Mo_hold_9 : decode b_Mo_hold 9 = .ok (.iconst (-1), 1) := by decide +kernel
theorem d_Mo_hold_10 : decode b_Mo_hold 10 = .ok (.if_icmp .eq 13, 3) := by decide +kernel
theorem d_Mo_hold_13 : decode b_Mo_hold 13 = .ok (.aload_n 0, 1) := by decide +kernel
theorem d_Mo_hold_14 : decode b_Mo_hold 14 = .ok (.iload_n 2, 1) := by decide +kernel
theorem d_Mo_hold_15 : decode b_Mo_hold 15 = .ok (.invokevirtual 88, 3) := by decide +kernel
theorem d_Mo_hold_18 : decode b_Mo_hold 18 = .ok (.ifCond .ne 5, 3) := by decide +kernel
theorem d_Mo_hold_21 : decode b_Mo_hold 21 = .ok (.iconst (-1), 1) := by decide +kernel
theorem d_Mo_hold_22 : decode b_Mo_hold 22 = .ok (.ireturn, 1) := by decide +kernel
theorem d_Mo_hold_23 : decode b_Mo_hold 23 = .ok (.aload_n 0, 1) := by decide +kernel
theorem d_Mo_hold_24 : decode b_Mo_hold 24 = .ok (.getfield 25, 3) := by decide +kernel
theorem d_Mo_hold_27 : decode b_Mo_hold 27 = .ok (.iload_n 1, 1) := by decide +kernel
theorem d_Mo_hold_28 : decode b_Mo_hold 28 = .ok (.iaload, 1) := by decide +kernel
theorem d_Mo_hold_29 : decode b_Mo_hold 29 = .ok (.istore_n 3, 1) := by decide +kernel
theorem d_Mo_hold_30 : decode b_Mo_hold 30 = .ok (.aload_n 0, 1) := by decide +kernel
theorem d_Mo_hold_31 : decode b_Mo_hold 31 = .ok (.getfield 25, 3) := by decide +kernel
theorem d_Mo_hold_34 : decode b_Mo_hold 34 = .ok (.iload_n 1, 1) := by decide +kernel
theorem d_Mo_hold_35 : decode b_Mo_hold 35 = .ok (.iload_n 2, 1) := by decide +kernel
theorem d_Mo_hold_36 : decode b_Mo_hold 36 = .ok (.iastore, 1) := by decide +kernel
theorem d_Mo_hold_37 : decode b_Mo_hold 37 = .ok (.aload_n 0, 1) := by decide +kernel
theorem d_Mo_hold_38 : decode b_Mo_hold 38 = .ok (.invokevirtual 85, 3) := by decide +kernel
theorem d_Mo_hold_41 : decode b_Mo_hold 41 = .ok (.iload_n 3, 1) := by decide +kernel
theorem d_Mo_hold_42 : decode b_Mo_hold 42 = .ok (.ireturn, 1) := by decide +kernel
theorem d_Mo_isPlace_0 : decode b_Mo_isPlace 0 = .ok (.iload_n 1, 1) := by decide +kernel
theorem d_Mo_isPlace_1 : decode b_Mo_isPlace 1 = .ok (.ifCond .lt 15, 3) := by decide +kernel
theorem d_Mo_isPlace_4 : decode b_Mo_isPlace 4 = .ok (.iload_n 1, 1) := by decide +kernel
theorem d_Mo_isPlace_5 : decode b_Mo_isPlace 5 = .ok (.aload_n 0, 1) := by decide +kernel
theorem d_Mo_isPlace_6 : decode b_Mo_isPlace 6 = .ok (.getfield 82, 3) := by decide +kernel
theorem d_Mo_isPlace_9 : decode b_Mo_isPlace 9 = .ok (.if_icmp .ge 7, 3) := by decide +kernel
theorem d_Mo_isPlace_12 : decode b_Mo_isPlace 12 = .ok (.iconst 1, 1) := by decide +kernel
theorem d_Mo_isPlace_13 : decode b_Mo_isPlace 13 = .ok (.goto 4, 3) := by decide +kernel
theorem d_Mo_isPlace_16 : decode b_Mo_isPlace 16 = .ok (.iconst 0, 1) := by decide +kernel
theorem d_Mo_isPlace_17 : decode b_Mo_isPlace 17 = .ok (.ireturn, 1) := by decide +kernel
theorem d_Mo_total_0 : decode b_Mo_total 0 = .ok (.aload_n 0, 1) := by decide +kernel
theorem d_Mo_total_1 : decode b_Mo_total 1 = .ok (.invokevirtual 138, 3) := by decide +kernel
theorem d_Mo_total_4 : decode b_Mo_total 4 = .ok (.aload_n 0, 1) := by decide +kernel
theorem d_Mo_total_5 : decode b_Mo_total 5 = .ok (.getfield 116, 3) := by decide +kernel
theorem d_Mo_total_8 : decode b_Mo_total 8 = .ok (.lreturn, 1) := by decide +kernel
theorem d_Mo_know_0 : decode b_Mo_know 0 = .ok (.aload_n 0, 1) := by decide +kernel
theorem d_Mo_know_1 : decode b_Mo_know 1 = .ok (.getfield 68, 3) := by decide +kernel
theorem d_Mo_know_4 : decode b_Mo_know 4 = .ok (.ifCond .eq 4, 3) := by decide +kernel
theorem d_Mo_know_7 : decode b_Mo_know 7 = .ok (.return_, 1) := by decide +kernel
theorem d_Mo_know_8 : decode b_Mo_know 8 = .ok (.aload_n 0, 1) := by decide +kernel
theorem d_Mo_know_9 : decode b_Mo_know 9 = .ok (.iconst 1, 1) := by decide +kernel
theorem d_Mo_know_10 : decode b_Mo_know 10 = .ok (.putfield 68, 3) := by decide +kernel
theorem d_Mo_know_13 : decode b_Mo_know 13 = .ok (.aload_n 0, 1) := by decide +kernel
theorem d_Mo_know_14 : decode b_Mo_know 14 = .ok (.lconst 0, 1) := by decide +kernel
theorem d_Mo_know_15 : decode b_Mo_know 15 = .ok (.putfield 116, 3) := by decide +kernel
theorem d_Mo_know_18 : decode b_Mo_know 18 = .ok (.aload_n 0, 1) := by decide +kernel
theorem d_Mo_know_19 : decode b_Mo_know 19 = .ok (.iconst 0, 1) := by decide +kernel
theorem d_Mo_know_20 : decode b_Mo_know 20 = .ok (.putfield 120, 3) := by decide +kernel
theorem d_Mo_know_23 : decode b_Mo_know 23 = .ok (.aload_n 0, 1) := by decide +kernel
theorem d_Mo_know_24 : decode b_Mo_know 24 = .ok (.iconst 0, 1) := by decide +kernel
theorem d_Mo_know_25 : decode b_Mo_know 25 = .ok (.putfield 113, 3) := by decide +kernel
theorem d_Mo_know_28 : decode b_Mo_know 28 = .ok (.iconst 0, 1) := by decide +kernel
theorem d_Mo_know_29 : decode b_Mo_know 29 = .ok (.istore_n 1, 1) := by decide +kernel
theorem d_Mo_know_30 : decode b_Mo_know 30 = .ok (.iload_n 1, 1) := by decide +kernel
theorem d_Mo_know_31 : decode b_Mo_know 31 = .ok (.bipush 24, 2) := by decide +kernel
theorem d_Mo_know_33 : decode b_Mo_know 33 = .ok (.if_icmp .ge 23, 3) := by decide +kernel
theorem d_Mo_know_36 : decode b_Mo_know 36 = .ok (.aload_n 0, 1) := by decide +kernel
theorem d_Mo_know_37 : decode b_Mo_know 37 = .ok (.getfield 31, 3) := by decide +kernel
theorem d_Mo_know_40 : decode b_Mo_know 40 = .ok (.iload_n 1, 1) := by decide +kernel
theorem d_Mo_know_41 : decode b_Mo_know 41 = .ok (.lconst 0, 1) := by decide +kernel
theorem d_Mo_know_42 : decode b_Mo_know 42 = .ok (.lastore, 1) := by decide +kernel
theorem d_Mo_know_43 : decode b_Mo_know 43 = .ok (.aload_n 0, 1) := by decide +kernel
theorem d_Mo_know_44 : decode b_Mo_know 44 = .ok (.getfield 35, 3) := by decide +kernel
theorem d_Mo_know_47 : decode b_Mo_know 47 = .ok (.iload_n 1, 1) := by decide +kernel
theorem d_Mo_know_48 : decode b_Mo_know 48 = .ok (.lconst 0, 1) := by decide +kernel
theorem d_Mo_know_49 : decode b_Mo_know 49 = .ok (.lastore, 1) := by decide +kernel
theorem d_Mo_know_50 : decode b_Mo_know 50 = .ok (.iinc 1 1, 3) := by decide +kernel
theorem d_Mo_know_53 : decode b_Mo_know 53 = .ok (.goto (-23), 3) := by decide +kernel
theorem d_Mo_know_56 : decode b_Mo_know 56 = .ok (.iconst 0, 1) := by decide +kernel
theorem d_Mo_know_57 : decode b_Mo_know 57 = .ok (.istore_n 1, 1) := by decide +kernel
theorem d_Mo_know_58 : decode b_Mo_know 58 = .ok (.iload_n 1, 1) := by decide +kernel
theorem d_Mo_know_59 : decode b_Mo_know 59 = .ok (.bipush 96, 2) := by decide +kernel
theorem d_Mo_know_61 : decode b_Mo_know 61 = .ok (.if_icmp .ge 16, 3) := by decide +kernel
theorem d_Mo_know_64 : decode b_Mo_know 64 = .ok (.aload_n 0, 1) := by decide +kernel
theorem d_Mo_know_65 : decode b_Mo_know 65 = .ok (.getfield 38, 3) := by decide +kernel
theorem d_Mo_know_68 : decode b_Mo_know 68 = .ok (.iload_n 1, 1) := by decide +kernel
theorem d_Mo_know_69 : decode b_Mo_know 69 = .ok (.lconst 0, 1) := by decide +kernel
theorem d_Mo_know_70 : decode b_Mo_know 70 = .ok (.lastore, 1) := by decide +kernel
theorem d_Mo_know_71 : decode b_Mo_know 71 = .ok (.iinc 1 1, 3) := by decide +kernel
theorem d_Mo_know_74 : decode b_Mo_know 74 = .ok (.goto (-16), 3) := by decide +kernel
theorem d_Mo_know_77 : decode b_Mo_know 77 = .ok (.aload_n 0, 1) := by decide +kernel
theorem d_Mo_know_78 : decode b_Mo_know 78 = .ok (.getfield 82, 3) := by decide +kernel
theorem d_Mo_know_81 : decode b_Mo_know 81 = .ok (.ifCond .le 15, 3) := by decide +kernel
theorem d_Mo_know_84 : decode b_Mo_know 84 = .ok (.aload_n 0, 1) := by decide +kernel
theorem d_Mo_know_85 : decode b_Mo_know 85 = .ok (.iconst 1, 1) := by decide +kernel
theorem d_Mo_know_86 : decode b_Mo_know 86 = .ok (.invokevirtual 123, 3) := by decide +kernel
theorem d_Mo_know_89 : decode b_Mo_know 89 = .ok (.ifCond .eq 7, 3) := by decide +kernel
theorem d_Mo_know_92 : decode b_Mo_know 92 = .ok (.iconst 1, 1) := by decide +kernel
theorem d_Mo_know_93 : decode b_Mo_know 93 = .ok (.goto 4, 3) := by decide +kernel
theorem d_Mo_know_96 : decode b_Mo_know 96 = .ok (.iconst 0, 1) := by decide +kernel
theorem d_Mo_know_97 : decode b_Mo_know 97 = .ok (.istore_n 1, 1) := by decide +kernel
theorem d_Mo_know_98 : decode b_Mo_know 98 = .ok (.iload_n 1, 1) := by decide +kernel
theorem d_Mo_know_99 : decode b_Mo_know 99 = .ok (.ifCond .eq 28, 3) := by decide +kernel
theorem d_Mo_know_102 : decode b_Mo_know 102 = .ok (.aload_n 0, 1) := by decide +kernel
theorem d_Mo_know_103 : decode b_Mo_know 103 = .ok (.invokevirtual 127, 3) := by decide +kernel
theorem d_Mo_know_106 : decode b_Mo_know 106 = .ok (.lstore_n 2, 1) := by decide +kernel
theorem d_Mo_know_107 : decode b_Mo_know 107 = .ok (.lload_n 2, 1) := by decide +kernel
theorem d_Mo_know_108 : decode b_Mo_know 108 = .ok (.lconst 0, 1) := by decide +kernel
theorem d_Mo_know_109 : decode b_Mo_know 109 = .ok (.lcmp, 1) := by decide +kernel
theorem d_Mo_know_110 : decode b_Mo_know 110 = .ok (.ifCond .le 8, 3) := by decide +kernel
theorem d_Mo_know_113 : decode b_Mo_know 113 = .ok (.aload_n 0, 1) := by decide +kernel
theorem d_Mo_know_114 : decode b_Mo_know 114 = .ok (.lload_n 2, 1) := by decide +kernel
theorem d_Mo_know_115 : decode b_Mo_know 115 = .ok (.invokevirtual 131, 3) := by decide +kernel
theorem d_Mo_know_118 : decode b_Mo_know 118 = .ok (.aload_n 0, 1) := by decide +kernel
theorem d_Mo_know_119 : decode b_Mo_know 119 = .ok (.iconst 0, 1) := by decide +kernel
theorem d_Mo_know_120 : decode b_Mo_know 120 = .ok (.invokevirtual 123, 3) := by decide +kernel
theorem d_Mo_know_123 : decode b_Mo_know 123 = .ok (.istore_n 1, 1) := by decide +kernel
theorem d_Mo_know_124 : decode b_Mo_know 124 = .ok (.goto (-26), 3) := by decide +kernel
theorem d_Mo_know_127 : decode b_Mo_know 127 = .ok (.return_, 1) := by decide +kernel
theorem d_Mo_next_0 : decode b_Mo_next 0 = .ok (.iload_n 1, 1) := by decide +kernel
theorem d_Mo_next_1 : decode b_Mo_next 1 = .ok (.ifCond .eq 7, 3) := by decide +kernel
theorem d_Mo_next_4 : decode b_Mo_next 4 = .ok (.iconst 0, 1) := by decide +kernel
theorem d_Mo_next_5 : decode b_Mo_next 5 = .ok (.goto 9, 3) := by decide +kernel
theorem d_Mo_next_8 : decode b_Mo_next 8 = .ok (.aload_n 0, 1) := by decide +kernel
theorem d_Mo_next_9 : decode b_Mo_next 9 = .ok (.getfield 82, 3) := by decide +kernel
theorem d_Mo_next_12 : decode b_Mo_next 12 = .ok (.iconst 1, 1) := by decide +kernel
theorem d_Mo_next_13 : decode b_Mo_next 13 = .ok (.isub, 1) := by decide +kernel
theorem d_Mo_next_14 : decode b_Mo_next 14 = .ok (.istore_n 2, 1) := by decide +kernel
theorem d_Mo_next_15 : decode b_Mo_next 15 = .ok (.iload_n 1, 1) := by decide +kernel
theorem d_Mo_next_16 : decode b_Mo_next 16 = .ok (.ifCond .eq 10, 3) := by decide +kernel
theorem d_Mo_next_19 : decode b_Mo_next 19 = .ok (.aload_n 0, 1) := by decide +kernel
theorem d_Mo_next_20 : decode b_Mo_next 20 = .ok (.getfield 28, 3) := by decide +kernel
theorem d_Mo_next_23 : decode b_Mo_next 23 = .ok (.iconst 0, 1) := by decide +kernel
theorem d_Mo_next_24 : decode b_Mo_next 24 = .ok (.iconst (-1), 1) := by decide +kernel
theorem d_Mo_next_25 : decode b_Mo_next 25 = .ok (.iastore, 1) := by decide +kernel
theorem d_Mo_next_26 : decode b_Mo_next 26 = .ok (.iload_n 2, 1) := by decide +kernel
theorem d_Mo_next_27 : decode b_Mo_next 27 = .ok (.ifCond .lt 75, 3) := by decide +kernel
theorem d_Mo_next_30 : decode b_Mo_next 30 = .ok (.aload_n 0, 1) := by decide +kernel
theorem d_Mo_next_31 : decode b_Mo_next 31 = .ok (.getfield 28, 3) := by decide +kernel
theorem d_Mo_next_34 : decode b_Mo_next 34 = .ok (.iload_n 2, 1) := by decide +kernel
theorem d_Mo_next_35 : decode b_Mo_next 35 = .ok (.iaload, 1) := by decide +kernel
theorem d_Mo_next_36 : decode b_Mo_next 36 = .ok (.iconst 1, 1) := by decide +kernel
theorem d_Mo_next_37 : decode b_Mo_next 37 = .ok (.iadd, 1) := by decide +kernel
theorem d_Mo_next_38 : decode b_Mo_next 38 = .ok (.istore_n 3, 1) := by decide +kernel
theorem d_Mo_next_39 : decode b_Mo_next 39 = .ok (.iload_n 3, 1) := by decide +kernel
theorem d_Mo_next_40 : decode b_Mo_next 40 = .ok (.bipush 8, 2) := by decide +kernel
theorem d_Mo_next_42 : decode b_Mo_next 42 = .ok (.if_icmp .ge 18, 3) := by decide +kernel
theorem d_Mo_next_45 : decode b_Mo_next 45 = .ok (.aload_n 0, 1) := by decide +kernel
theorem d_Mo_next_46 : decode b_Mo_next 46 = .ok (.iload_n 2, 1) := by decide +kernel
theorem d_Mo_next_47 : decode b_Mo_next 47 = .ok (.iload_n 3, 1) := by decide +kernel
theorem d_Mo_next_48 : decode b_Mo_next 48 = .ok (.invokevirtual 109, 3) := by decide +kernel
theorem d_Mo_next_51 : decode b_Mo_next 51 = .ok (.ifCond .ne 9, 3) := by decide +kernel
theorem d_Mo_next_54 : decode b_Mo_next 54 = .ok (.iinc 3 1, 3) := by decide +kernel
theorem d_Mo_next_57 : decode b_Mo_next 57 = .ok (.goto (-18), 3) := by decide +kernel
theorem d_Mo_next_60 : decode b_Mo_next 60 = .ok (.iload_n 3, 1) := by decide +kernel
theorem d_Mo_next_61 : decode b_Mo_next 61 = .ok (.bipush 8, 2) := by decide +kernel
theorem d_Mo_next_63 : decode b_Mo_next 63 = .ok (.if_icmp .ne 9, 3) := by decide +kernel
theorem d_Mo_next_66 : decode b_Mo_next 66 = .ok (.iinc 2 (-1), 3) := by decide +kernel
theorem d_Mo_next_69 : decode b_Mo_next 69 = .ok (.goto 30, 3) := by decide +kernel
theorem d_Mo_next_72 : decode b_Mo_next 72 = .ok (.aload_n 0, 1) := by decide +kernel
theorem d_Mo_next_73 : decode b_Mo_next 73 = .ok (.getfield 28, 3) := by decide +kernel
theorem d_Mo_next_76 : decode b_Mo_next 76 = .ok (.iload_n 2, 1) := by decide +kernel
theorem d_Mo_next_77 : decode b_Mo_next 77 = .ok (.iload_n 3, 1) := by decide +kernel
theorem d_Mo_next_78 : decode b_Mo_next 78 = .ok (.iastore, 1) := by decide +kernel
theorem d_Mo_next_79 : decode b_Mo_next 79 = .ok (.iinc 2 1, 3) := by decide +kernel
theorem d_Mo_next_82 : decode b_Mo_next 82 = .ok (.iload_n 2, 1) := by decide +kernel
theorem d_Mo_next_83 : decode b_Mo_next 83 = .ok (.aload_n 0, 1) := by decide +kernel
theorem d_Mo_next_84 : decode b_Mo_next 84 = .ok (.getfield 82, 3) := by decide +kernel
theorem d_Mo_next_87 : decode b_Mo_next 87 = .ok (.if_icmp .ne 5, 3) := by decide +kernel
theorem d_Mo_next_90 : decode b_Mo_next 90 = .ok (.iconst 1, 1) := by decide +kernel
theorem d_Mo_next_91 : decode b_Mo_next 91 = .ok (.ireturn, 1) := by decide +kernel
theorem d_Mo_next_92 : decode b_Mo_next 92 = .ok (.aload_n 0, 1) := by decide +kernel
theorem d_Mo_next_93 : decode b_Mo_next 93 = .ok (.getfield 28, 3) := by decide +kernel
theorem d_Mo_next_96 : decode b_Mo_next 96 = .ok (.iload_n 2, 1) := by decide +kernel
theorem d_Mo_next_97 : decode b_Mo_next 97 = .ok (.iconst (-1), 1) := by decide +kernel
theorem d_Mo_next_98 : decode b_Mo_next 98 = .ok (.iastore, 1) := by decide +kernel
theorem d_Mo_next_99 : decode b_Mo_next 99 = .ok (.goto (-73), 3) := by decide +kernel
theorem d_Mo_next_102 : decode b_Mo_next 102 = .ok (.iconst 0, 1) := by decide +kernel
theorem d_Mo_next_103 : decode b_Mo_next 103 = .ok (.ireturn, 1) := by decide +kernel
theorem d_Mo_canBe_0 : decode b_Mo_canBe 0 = .ok (.iload_n 2, 1) := by decide +kernel
theorem d_Mo_canBe_1 : decode b_Mo_canBe 1 = .ok (.iconst 2, 1) := by decide +kernel
theorem d_Mo_canBe_2 : decode b_Mo_canBe 2 = .ok (.irem, 1) := by decide +kernel
theorem d_Mo_canBe_3 : decode b_Mo_canBe 3 = .ok (.ifCond .ne 19, 3) := by decide +kernel
theorem d_Mo_canBe_6 : decode b_Mo_canBe 6 = .ok (.iload_n 2, 1) := by decide +kernel
theorem d_Mo_canBe_7 : decode b_Mo_canBe 7 = .ok (.iconst 2, 1) := by decide +kernel
theorem d_Mo_canBe_8 : decode b_Mo_canBe 8 = .ok (.idiv, 1) := by decide +kernel
theorem d_Mo_canBe_9 : decode b_Mo_canBe 9 = .ok (.aload_n 0, 1) := by decide +kernel
theorem d_Mo_canBe_10 : decode b_Mo_canBe 10 = .ok (.getfield 75, 3) := by decide +kernel
theorem d_Mo_canBe_13 : decode b_Mo_canBe 13 = .ok (.if_icmp .ge 7, 3) := by decide +kernel
theorem d_Mo_canBe_16 : decode b_Mo_canBe 16 = .ok (.iconst 1, 1) := by decide +kernel
theorem d_Mo_canBe_17 : decode b_Mo_canBe 17 = .ok (.goto 4, 3) := by decide +kernel
theorem d_Mo_canBe_20 : decode b_Mo_canBe 20 = .ok (.iconst 0, 1) := by decide +kernel
theorem d_Mo_canBe_21 : decode b_Mo_canBe 21 = .ok (.ireturn, 1) := by decide +kernel
theorem d_Mo_canBe_22 : decode b_Mo_canBe 22 = .ok (.iload_n 1, 1) := by decide +kernel
theorem d_Mo_canBe_23 : decode b_Mo_canBe 23 = .ok (.ifCond .le 34, 3) := by decide +kernel
theorem d_Mo_canBe_26 : decode b_Mo_canBe 26 = .ok (.aload_n 0, 1) := by decide +kernel
theorem d_Mo_canBe_27 : decode b_Mo_canBe 27 = .ok (.getfield 28, 3) := by decide +kernel
theorem d_Mo_canBe_30 : decode b_Mo_canBe 30 = .ok (.iload_n 1, 1) := by decide +kernel
theorem d_Mo_canBe_31 : decode b_Mo_canBe 31 = .ok (.iconst 1, 1) := by decide +kernel
theorem d_Mo_canBe_32 : decode b_Mo_canBe 32 = .ok (.isub, 1) := by decide +kernel
theorem d_Mo_canBe_33 : decode b_Mo_canBe 33 = .ok (.iaload, 1) := by decide +kernel
theorem d_Mo_canBe_34 : decode b_Mo_canBe 34 = .ok (.iconst 2, 1) := by decide +kernel
theorem d_Mo_canBe_35 : decode b_Mo_canBe 35 = .ok (.idiv, 1) := by decide +kernel
theorem d_Mo_canBe_36 : decode b_Mo_canBe 36 = .ok (.iload_n 2, 1) := by decide +kernel
theorem d_Mo_canBe_37 : decode b_Mo_canBe 37 = .ok (.iconst 2, 1) := by decide +kernel
theorem d_Mo_canBe_38 : decode b_Mo_canBe 38 = .ok (.idiv, 1) := by decide +kernel
theorem d_Mo_canBe_39 : decode b_Mo_canBe 39 = .ok (.if_icmp .ne 18, 3) := by decide +kernel
theorem d_Mo_canBe_42 : decode b_Mo_canBe 42 = .ok (.aload_n 0, 1) := by decide +kernel
theorem d_Mo_canBe_43 : decode b_Mo_canBe 43 = .ok (.iload_n 1, 1) := by decide +kernel
theorem d_Mo_canBe_44 : decode b_Mo_canBe 44 = .ok (.iconst 1, 1) := by decide +kernel
theorem d_Mo_canBe_45 : decode b_Mo_canBe 45 = .ok (.isub, 1) := by decide +kernel
theorem d_Mo_canBe_46 : decode b_Mo_canBe 46 = .ok (.invokevirtual 101, 3) := by decide +kernel
theorem d_Mo_canBe_49 : decode b_Mo_canBe 49 = .ok (.iconst 3, 1) := by decide +kernel
theorem d_Mo_canBe_50 : decode b_Mo_canBe 50 = .ok (.if_icmp .ge 7, 3) := by decide +kernel
theorem d_Mo_canBe_53 : decode b_Mo_canBe 53 = .ok (.iconst 1, 1) := by decide +kernel
theorem d_Mo_canBe_54 : decode b_Mo_canBe 54 = .ok (.goto 4, 3) := by decide +kernel
theorem d_Mo_canBe_57 : decode b_Mo_canBe 57 = .ok (.iconst 0, 1) := by decide +kernel
theorem d_Mo_canBe_58 : decode b_Mo_canBe 58 = .ok (.ireturn, 1) := by decide +kernel
theorem d_Mo_stay_0 : decode b_Mo_stay 0 = .ok (.iconst 1, 1) := by decide +kernel
theorem d_Mo_stay_1 : decode b_Mo_stay 1 = .ok (.istore_n 2, 1) := by decide +kernel
theorem d_Mo_stay_2 : decode b_Mo_stay 2 = .ok (.iload_n 1, 1) := by decide +kernel
theorem d_Mo_stay_3 : decode b_Mo_stay 3 = .ok (.istore_n 3, 1) := by decide +kernel
theorem d_Mo_stay_4 : decode b_Mo_stay 4 = .ok (.iload_n 3, 1) := by decide +kernel
theorem d_Mo_stay_5 : decode b_Mo_stay 5 = .ok (.ifCond .le 24, 3) := by decide +kernel
theorem d_Mo_stay_8 : decode b_Mo_stay 8 = .ok (.aload_n 0, 1) := by decide +kernel
theorem d_Mo_stay_9 : decode b_Mo_stay 9 = .ok (.getfield 28, 3) := by decide +kernel
theorem d_Mo_stay_12 : decode b_Mo_stay 12 = .ok (.iload_n 3, 1) := by decide +kernel
theorem d_Mo_stay_13 : decode b_Mo_stay 13 = .ok (.iaload, 1) := by decide +kernel
theorem d_Mo_stay_14 : decode b_Mo_stay 14 = .ok (.iconst 2, 1) := by decide +kernel
theorem d_Mo_stay_15 : decode b_Mo_stay 15 = .ok (.irem, 1) := by decide +kernel
theorem d_Mo_stay_16 : decode b_Mo_stay 16 = .ok (.iconst 1, 1) := by decide +kernel
theorem d_Mo_stay_17 : decode b_Mo_stay 17 = .ok (.if_icmp .ne 12, 3) := by decide +kernel
theorem d_Mo_stay_20 : decode b_Mo_stay 20 = .ok (.iinc 3 (-1), 3) := by decide +kernel
theorem d_Mo_stay_23 : decode b_Mo_stay 23 = .ok (.iinc 2 1, 3) := by decide +kernel
theorem d_Mo_stay_26 : decode b_Mo_stay 26 = .ok (.goto (-22), 3) := by decide +kernel
theorem d_Mo_stay_29 : decode b_Mo_stay 29 = .ok (.iload_n 2, 1) := by decide +kernel
theorem d_Mo_stay_30 : decode b_Mo_stay 30 = .ok (.ireturn, 1) := by decide +kernel
theorem d_Mo_weightOf_0 : decode b_Mo_weightOf 0 = .ok (.aload_n 0, 1) := by decide +kernel
theorem d_Mo_weightOf_1 : decode b_Mo_weightOf 1 = .ok (.getfield 7, 3) := by decide +kernel
theorem d_Mo_weightOf_4 : decode b_Mo_weightOf 4 = .ok (.bipush 9, 2) := by decide +kernel
theorem d_Mo_weightOf_6 : decode b_Mo_weightOf 6 = .ok (.aload_n 0, 1) := by decide +kernel
theorem d_Mo_weightOf_7 : decode b_Mo_weightOf 7 = .ok (.getfield 28, 3) := by decide +kernel
theorem d_Mo_weightOf_10 : decode b_Mo_weightOf 10 = .ok (.iconst 0, 1) := by decide +kernel
theorem d_Mo_weightOf_11 : decode b_Mo_weightOf 11 = .ok (.iaload, 1) := by decide +kernel
theorem d_Mo_weightOf_12 : decode b_Mo_weightOf 12 = .ok (.iconst 2, 1) := by decide +kernel
theorem d_Mo_weightOf_13 : decode b_Mo_weightOf 13 = .ok (.idiv, 1) := by decide +kernel
theorem d_Mo_weightOf_14 : decode b_Mo_weightOf 14 = .ok (.imul, 1) := by decide +kernel
theorem d_Mo_weightOf_15 : decode b_Mo_weightOf 15 = .ok (.iaload, 1) := by decide +kernel
theorem d_Mo_weightOf_16 : decode b_Mo_weightOf 16 = .ok (.aload_n 0, 1) := by decide +kernel
theorem d_Mo_weightOf_17 : decode b_Mo_weightOf 17 = .ok (.getfield 7, 3) := by decide +kernel
theorem d_Mo_weightOf_20 : decode b_Mo_weightOf 20 = .ok (.bipush 9, 2) := by decide +kernel
theorem d_Mo_weightOf_22 : decode b_Mo_weightOf 22 = .ok (.aload_n 0, 1) := by decide +kernel
theorem d_Mo_weightOf_23 : decode b_Mo_weightOf 23 = .ok (.getfield 28, 3) := by decide +kernel
theorem d_Mo_weightOf_26 : decode b_Mo_weightOf 26 = .ok (.aload_n 0, 1) := by decide +kernel
theorem d_Mo_weightOf_27 : decode b_Mo_weightOf 27 = .ok (.getfield 82, 3) := by decide +kernel
theorem d_Mo_weightOf_30 : decode b_Mo_weightOf 30 = .ok (.iconst 1, 1) := by decide +kernel
theorem d_Mo_weightOf_31 : decode b_Mo_weightOf 31 = .ok (.isub, 1) := by decide +kernel
theorem d_Mo_weightOf_32 : decode b_Mo_weightOf 32 = .ok (.iaload, 1) := by decide +kernel
theorem d_Mo_weightOf_33 : decode b_Mo_weightOf 33 = .ok (.iconst 2, 1) := by decide +kernel
theorem d_Mo_weightOf_34 : decode b_Mo_weightOf 34 = .ok (.idiv, 1) := by decide +kernel
theorem d_Mo_weightOf_35 : decode b_Mo_weightOf 35 = .ok (.imul, 1) := by decide +kernel
theorem d_Mo_weightOf_36 : decode b_Mo_weightOf 36 = .ok (.iconst 1, 1) := by decide +kernel
theorem d_Mo_weightOf_37 : decode b_Mo_weightOf 37 = .ok (.iadd, 1) := by decide +kernel
theorem d_Mo_weightOf_38 : decode b_Mo_weightOf 38 = .ok (.iaload, 1) := by decide +kernel
theorem d_Mo_weightOf_39 : decode b_Mo_weightOf 39 = .ok (.imul, 1) := by decide +kernel
theorem d_Mo_weightOf_40 : decode b_Mo_weightOf 40 = .ok (.i2l, 1) := by decide +kernel
theorem d_Mo_weightOf_41 : decode b_Mo_weightOf 41 = .ok (.lstore_n 1, 1) := by decide +kernel
theorem d_Mo_weightOf_42 : decode b_Mo_weightOf 42 = .ok (.iconst 0, 1) := by decide +kernel
theorem d_Mo_weightOf_43 : decode b_Mo_weightOf 43 = .ok (.istore_n 3, 1) := by decide +kernel
theorem d_Mo_weightOf_44 : decode b_Mo_weightOf 44 = .ok (.iload_n 3, 1) := by decide +kernel
theorem d_Mo_weightOf_45 : decode b_Mo_weightOf 45 = .ok (.aload_n 0, 1) := by decide +kernel
theorem d_Mo_weightOf_46 : decode b_Mo_weightOf 46 = .ok (.getfield 82, 3) := by decide +kernel
theorem d_Mo_weightOf_49 : decode b_Mo_weightOf 49 = .ok (.if_icmp .ge 148, 3) := by decide +kernel
theorem d_Mo_weightOf_52 : decode b_Mo_weightOf 52 = .ok (.aload_n 0, 1) := by decide +kernel
theorem d_Mo_weightOf_53 : decode b_Mo_weightOf 53 = .ok (.getfield 28, 3) := by decide +kernel
theorem d_Mo_weightOf_56 : decode b_Mo_weightOf 56 = .ok (.iload_n 3, 1) := by decide +kernel
theorem d_Mo_weightOf_57 : decode b_Mo_weightOf 57 = .ok (.iaload, 1) := by decide +kernel
theorem d_Mo_weightOf_58 : decode b_Mo_weightOf 58 = .ok (.iconst 2, 1) := by decide +kernel
theorem d_Mo_weightOf_59 : decode b_Mo_weightOf 59 = .ok (.idiv, 1) := by decide +kernel
theorem d_Mo_weightOf_60 : decode b_Mo_weightOf 60 = .ok (.istore 4, 2) := by decide +kernel
theorem d_Mo_weightOf_62 : decode b_Mo_weightOf 62 = .ok (.lload_n 1, 1) := by decide +kernel
theorem d_Mo_weightOf_63 : decode b_Mo_weightOf 63 = .ok (.aload_n 0, 1) := by decide +kernel
theorem d_Mo_weightOf_64 : decode b_Mo_weightOf 64 = .ok (.iload 4, 2) := by decide +kernel
theorem d_Mo_weightOf_66 : decode b_Mo_weightOf 66 = .ok (.iload_n 3, 1) := by decide +kernel
theorem d_Mo_weightOf_67 : decode b_Mo_weightOf 67 = .ok (.invokevirtual 105, 3) := by decide +kernel
theorem d_Mo_weightOf_70 : decode b_Mo_weightOf 70 = .ok (.i2l, 1) := by decide +kernel
theorem d_Mo_weightOf_71 : decode b_Mo_weightOf 71 = .ok (.lmul, 1) := by decide +kernel
theorem d_Mo_weightOf_72 : decode b_Mo_weightOf 72 = .ok (.lstore_n 1, 1) := by decide +kernel
theorem d_Mo_weightOf_73 : decode b_Mo_weightOf 73 = .ok (.aload_n 0, 1) := by decide +kernel
theorem d_Mo_weightOf_74 : decode b_Mo_weightOf 74 = .ok (.getfield 25, 3) := by decide +kernel
theorem d_Mo_weightOf_77 : decode b_Mo_weightOf 77 = .ok (.iload_n 3, 1) := by decide +kernel
theorem d_Mo_weightOf_78 : decode b_Mo_weightOf 78 = .ok (.iaload, 1) := by decide +kernel
theorem d_Mo_weightOf_79 : decode b_Mo_weightOf 79 = .ok (.ifCond .lt 16, 3) := by decide +kernel
theorem d_Mo_weightOf_82 : decode b_Mo_weightOf 82 = .ok (.aload_n 0, 1) := by decide +kernel
theorem d_Mo_weightOf_83 : decode b_Mo_weightOf 83 = .ok (.getfield 25, 3) := by decide +kernel
theorem d_Mo_weightOf_86 : decode b_Mo_weightOf 86 = .ok (.iload_n 3, 1) := by decide +kernel
theorem d_Mo_weightOf_87 : decode b_Mo_weightOf 87 = .ok (.iaload, 1) := by decide +kernel
theorem d_Mo_weightOf_88 : decode b_Mo_weightOf 88 = .ok (.iload 4, 2) := by decide +kernel
theorem d_Mo_weightOf_90 : decode b_Mo_weightOf 90 = .ok (.if_icmp .eq 5, 3) := by decide +kernel
theorem d_Mo_weightOf_93 : decode b_Mo_weightOf 93 = .ok (.lconst 0, 1) := by decide +kernel
theorem d_Mo_weightOf_94 : decode b_Mo_weightOf 94 = .ok (.lstore_n 1, 1) := by decide +kernel
theorem d_Mo_weightOf_95 : decode b_Mo_weightOf 95 = .ok (.iload_n 3, 1) := by decide +kernel
theorem d_Mo_weightOf_96 : decode b_Mo_weightOf 96 = .ok (.iconst 1, 1) := by decide +kernel
theorem d_Mo_weightOf_97 : decode b_Mo_weightOf 97 = .ok (.iadd, 1) := by decide +kernel
theorem d_Mo_weightOf_98 : decode b_Mo_weightOf 98 = .ok (.aload_n 0, 1) := by decide +kernel
theorem d_Mo_weightOf_99 : decode b_Mo_weightOf 99 = .ok (.getfield 82, 3) := by decide +kernel
theorem d_Mo_weightOf_102 : decode b_Mo_weightOf 102 = .ok (.if_icmp .eq 16, 3) := by decide +kernel
theorem d_Mo_weightOf_105 : decode b_Mo_weightOf 105 = .ok (.aload_n 0, 1) := by decide +kernel
theorem d_Mo_weightOf_106 : decode b_Mo_weightOf 106 = .ok (.getfield 28, 3) := by decide +kernel
theorem d_Mo_weightOf_109 : decode b_Mo_weightOf 109 = .ok (.iload_n 3, 1) := by decide +kernel
theorem d_Mo_weightOf_110 : decode b_Mo_weightOf 110 = .ok (.iconst 1, 1) := by decide +kernel
theorem d_Mo_weightOf_111 : decode b_Mo_weightOf 111 = .ok (.iadd, 1) := by decide +kernel
theorem d_Mo_weightOf_112 : decode b_Mo_weightOf 112 = .ok (.iaload, 1) := by decide +kernel
theorem d_Mo_weightOf_113 : decode b_Mo_weightOf 113 = .ok (.iconst 2, 1) := by decide +kernel
theorem d_Mo_weightOf_114 : decode b_Mo_weightOf 114 = .ok (.irem, 1) := by decide +kernel
theorem d_Mo_weightOf_115 : decode b_Mo_weightOf 115 = .ok (.ifCond .ne 7, 3) := by decide +kernel
theorem d_Mo_weightOf_118 : decode b_Mo_weightOf 118 = .ok (.iconst 1, 1) := by decide +kernel
theorem d_Mo_weightOf_119 : decode b_Mo_weightOf 119 = .ok (.goto 4, 3) := by decide +kernel
theorem d_Mo_weightOf_122 : decode b_Mo_weightOf 122 = .ok (.iconst 0, 1) := by decide +kernel
theorem d_Mo_weightOf_123 : decode b_Mo_weightOf 123 = .ok (.istore 5, 2) := by decide +kernel
theorem d_Mo_weightOf_125 : decode b_Mo_weightOf 125 = .ok (.iload 5, 2) := by decide +kernel
theorem d_Mo_weightOf_127 : decode b_Mo_weightOf 127 = .ok (.ifCond .eq 25, 3) := by decide +kernel
theorem d_Mo_weightOf_130 : decode b_Mo_weightOf 130 = .ok (.lload_n 1, 1) := by decide +kernel
theorem d_Mo_weightOf_131 : decode b_Mo_weightOf 131 = .ok (.aload_n 0, 1) := by decide +kernel
theorem d_Mo_weightOf_132 : decode b_Mo_weightOf 132 = .ok (.getfield 7, 3) := by decide +kernel
theorem d_Mo_weightOf_135 : decode b_Mo_weightOf 135 = .ok (.bipush 9, 2) := by decide +kernel
theorem d_Mo_weightOf_137 : decode b_Mo_weightOf 137 = .ok (.iload 4, 2) := by decide +kernel
theorem d_Mo_weightOf_139 : decode b_Mo_weightOf 139 = .ok (.imul, 1) := by decide +kernel
theorem d_Mo_weightOf_140 : decode b_Mo_weightOf 140 = .ok (.iconst 1, 1) := by decide +kernel
theorem d_Mo_weightOf_141 : decode b_Mo_weightOf 141 = .ok (.iadd, 1) := by decide +kernel
theorem d_Mo_weightOf_142 : decode b_Mo_weightOf 142 = .ok (.aload_n 0, 1) := by decide +kernel
theorem d_Mo_weightOf_143 : decode b_Mo_weightOf 143 = .ok (.iload_n 3, 1) := by decide +kernel
theorem d_Mo_weightOf_144 : decode b_Mo_weightOf 144 = .ok (.invokevirtual 101, 3) := by decide +kernel
theorem d_Mo_weightOf_147 : decode b_Mo_weightOf 147 = .ok (.iadd, 1) := by decide +kernel
theorem d_Mo_weightOf_148 : decode b_Mo_weightOf 148 = .ok (.iaload, 1) := by decide +kernel
theorem d_Mo_weightOf_149 : decode b_Mo_weightOf 149 = .ok (.i2l, 1) := by decide +kernel
theorem d_Mo_weightOf_150 : decode b_Mo_weightOf 150 = .ok (.lmul, 1) := by decide +kernel
theorem d_Mo_weightOf_151 : decode b_Mo_weightOf 151 = .ok (.lstore_n 1, 1) := by decide +kernel
theorem d_Mo_weightOf_152 : decode b_Mo_weightOf 152 = .ok (.iload 5, 2) := by decide +kernel
theorem d_Mo_weightOf_154 : decode b_Mo_weightOf 154 = .ok (.ifCond .eq 37, 3) := by decide +kernel
theorem d_Mo_weightOf_157 : decode b_Mo_weightOf 157 = .ok (.iload_n 3, 1) := by decide +kernel
theorem d_Mo_weightOf_158 : decode b_Mo_weightOf 158 = .ok (.iconst 1, 1) := by decide +kernel
theorem d_Mo_weightOf_159 : decode b_Mo_weightOf 159 = .ok (.iadd, 1) := by decide +kernel
theorem d_Mo_weightOf_160 : decode b_Mo_weightOf 160 = .ok (.aload_n 0, 1) := by decide +kernel
theorem d_Mo_weightOf_161 : decode b_Mo_weightOf 161 = .ok (.getfield 82, 3) := by decide +kernel
theorem d_Mo_weightOf_164 : decode b_Mo_weightOf 164 = .ok (.if_icmp .ge 27, 3) := by decide +kernel
theorem d_Mo_weightOf_167 : decode b_Mo_weightOf 167 = .ok (.lload_n 1, 1) := by decide +kernel
theorem d_Mo_weightOf_168 : decode b_Mo_weightOf 168 = .ok (.aload_n 0, 1) := by decide +kernel
theorem d_Mo_weightOf_169 : decode b_Mo_weightOf 169 = .ok (.getfield 13, 3) := by decide +kernel
theorem d_Mo_weightOf_172 : decode b_Mo_weightOf 172 = .ok (.iconst 4, 1) := by decide +kernel
theorem d_Mo_weightOf_173 : decode b_Mo_weightOf 173 = .ok (.iload 4, 2) := by decide +kernel
theorem d_Mo_weightOf_175 : decode b_Mo_weightOf 175 = .ok (.imul, 1) := by decide +kernel
theorem d_Mo_weightOf_176 : decode b_Mo_weightOf 176 = .ok (.aload_n 0, 1) := by decide +kernel
theorem d_Mo_weightOf_177 : decode b_Mo_weightOf 177 = .ok (.getfield 28, 3) := by decide +kernel
theorem d_Mo_weightOf_180 : decode b_Mo_weightOf 180 = .ok (.iload_n 3, 1) := by decide +kernel
theorem d_Mo_weightOf_181 : decode b_Mo_weightOf 181 = .ok (.iconst 1, 1) := by decide +kernel
theorem d_Mo_weightOf_182 : decode b_Mo_weightOf 182 = .ok (.iadd, 1) := by decide +kernel
theorem d_Mo_weightOf_183 : decode b_Mo_weightOf 183 = .ok (.iaload, 1) := by decide +kernel
theorem d_Mo_weightOf_184 : decode b_Mo_weightOf 184 = .ok (.iconst 2, 1) := by decide +kernel
theorem d_Mo_weightOf_185 : decode b_Mo_weightOf 185 = .ok (.idiv, 1) := by decide +kernel
theorem d_Mo_weightOf_186 : decode b_Mo_weightOf 186 = .ok (.iadd, 1) := by decide +kernel
theorem d_Mo_weightOf_187 : decode b_Mo_weightOf 187 = .ok (.iaload, 1) := by decide +kernel
theorem d_Mo_weightOf_188 : decode b_Mo_weightOf 188 = .ok (.i2l, 1) := by decide +kernel
theorem d_Mo_weightOf_189 : decode b_Mo_weightOf 189 = .ok (.lmul, 1) := by decide +kernel
theorem d_Mo_weightOf_190 : decode b_Mo_weightOf 190 = .ok (.lstore_n 1, 1) := by decide +kernel
theorem d_Mo_weightOf_191 : decode b_Mo_weightOf 191 = .ok (.iinc 3 1, 3) := by decide +kernel
theorem d_Mo_weightOf_194 : decode b_Mo_weightOf 194 = .ok (.goto (-150), 3) := by decide +kernel
theorem d_Mo_weightOf_197 : decode b_Mo_weightOf 197 = .ok (.lload_n 1, 1) := by decide +kernel
theorem d_Mo_weightOf_198 : decode b_Mo_weightOf 198 = .ok (.lreturn, 1) := by decide +kernel
theorem d_Mo_show_0 : decode b_Mo_show 0 = .ok (.aload_n 0, 1) := by decide +kernel
theorem d_Mo_show_1 : decode b_Mo_show 1 = .ok (.getfield 22, 3) := by decide +kernel
theorem d_Mo_show_4 : decode b_Mo_show 4 = .ok (.iload_n 2, 1) := by decide +kernel
theorem d_Mo_show_5 : decode b_Mo_show 5 = .ok (.iaload, 1) := by decide +kernel
theorem d_Mo_show_6 : decode b_Mo_show 6 = .ok (.istore_n 3, 1) := by decide +kernel
theorem d_Mo_show_7 : decode b_Mo_show 7 = .ok (.bipush 9, 2) := by decide +kernel
theorem d_Mo_show_9 : decode b_Mo_show 9 = .ok (.iload_n 1, 1) := by decide +kernel
theorem d_Mo_show_10 : decode b_Mo_show 10 = .ok (.imul, 1) := by decide +kernel
theorem d_Mo_show_11 : decode b_Mo_show 11 = .ok (.iconst 5, 1) := by decide +kernel
theorem d_Mo_show_12 : decode b_Mo_show 12 = .ok (.iadd, 1) := by decide +kernel
theorem d_Mo_show_13 : decode b_Mo_show 13 = .ok (.istore 4, 2) := by decide +kernel
theorem d_Mo_show_15 : decode b_Mo_show 15 = .ok (.iload_n 3, 1) := by decide +kernel
theorem d_Mo_show_16 : decode b_Mo_show 16 = .ok (.ifCond .lt 15, 3) := by decide +kernel
theorem d_Mo_show_19 : decode b_Mo_show 19 = .ok (.aload_n 0, 1) := by decide +kernel
theorem d_Mo_show_20 : decode b_Mo_show 20 = .ok (.getfield 7, 3) := by decide +kernel
theorem d_Mo_show_23 : decode b_Mo_show 23 = .ok (.iload 4, 2) := by decide +kernel
theorem d_Mo_show_25 : decode b_Mo_show 25 = .ok (.iload_n 3, 1) := by decide +kernel
theorem d_Mo_show_26 : decode b_Mo_show 26 = .ok (.iadd, 1) := by decide +kernel
theorem d_Mo_show_27 : decode b_Mo_show 27 = .ok (.iaload, 1) := by decide +kernel
theorem d_Mo_show_28 : decode b_Mo_show 28 = .ok (.goto 40, 3) := by decide +kernel
theorem d_Mo_show_31 : decode b_Mo_show 31 = .ok (.aload_n 0, 1) := by decide +kernel
theorem d_Mo_show_32 : decode b_Mo_show 32 = .ok (.getfield 7, 3) := by decide +kernel
theorem d_Mo_show_35 : decode b_Mo_show 35 = .ok (.iload 4, 2) := by decide +kernel
theorem d_Mo_show_37 : decode b_Mo_show 37 = .ok (.iaload, 1) := by decide +kernel
theorem d_Mo_show_38 : decode b_Mo_show 38 = .ok (.aload_n 0, 1) := by decide +kernel
theorem d_Mo_show_39 : decode b_Mo_show 39 = .ok (.getfield 7, 3) := by decide +kernel
theorem d_Mo_show_42 : decode b_Mo_show 42 = .ok (.iload 4, 2) := by decide +kernel
theorem d_Mo_show_44 : decode b_Mo_show 44 = .ok (.iconst 1, 1) := by decide +kernel
theorem d_Mo_show_45 : decode b_Mo_show 45 = .ok (.iadd, 1) := by decide +kernel
theorem d_Mo_show_46 : decode b_Mo_show 46 = .ok (.iaload, 1) := by decide +kernel
theorem d_Mo_show_47 : decode b_Mo_show 47 = .ok (.iadd, 1) := by decide +kernel
theorem d_Mo_show_48 : decode b_Mo_show 48 = .ok (.aload_n 0, 1) := by decide +kernel
theorem d_Mo_show_49 : decode b_Mo_show 49 = .ok (.getfield 7, 3) := by decide +kernel
theorem d_Mo_show_52 : decode b_Mo_show 52 = .ok (.iload 4, 2) := by decide +kernel
theorem d_Mo_show_54 : decode b_Mo_show 54 = .ok (.iconst 2, 1) := by decide +kernel
theorem d_Mo_show_55 : decode b_Mo_show 55 = .ok (.iadd, 1) := by decide +kernel
theorem d_Mo_show_56 : decode b_Mo_show 56 = .ok (.iaload, 1) := by decide +kernel
theorem d_Mo_show_57 : decode b_Mo_show 57 = .ok (.iadd, 1) := by decide +kernel
theorem d_Mo_show_58 : decode b_Mo_show 58 = .ok (.aload_n 0, 1) := by decide +kernel
theorem d_Mo_show_59 : decode b_Mo_show 59 = .ok (.getfield 7, 3) := by decide +kernel
theorem d_Mo_show_62 : decode b_Mo_show 62 = .ok (.iload 4, 2) := by decide +kernel
theorem d_Mo_show_64 : decode b_Mo_show 64 = .ok (.iconst 3, 1) := by decide +kernel
theorem d_Mo_show_65 : decode b_Mo_show 65 = .ok (.iadd, 1) := by decide +kernel
theorem d_Mo_show_66 : decode b_Mo_show 66 = .ok (.iaload, 1) := by decide +kernel
theorem d_Mo_show_67 : decode b_Mo_show 67 = .ok (.iadd, 1) := by decide +kernel
theorem d_Mo_show_68 : decode b_Mo_show 68 = .ok (.ireturn, 1) := by decide +kernel
theorem d_Mo_add_0 : decode b_Mo_add 0 = .ok (.aload_n 0, 1) := by decide +kernel
theorem d_Mo_add_1 : decode b_Mo_add 1 = .ok (.dup, 1) := by decide +kernel
theorem d_Mo_add_2 : decode b_Mo_add 2 = .ok (.getfield 116, 3) := by decide +kernel
theorem d_Mo_add_5 : decode b_Mo_add 5 = .ok (.lload_n 1, 1) := by decide +kernel
theorem d_Mo_add_6 : decode b_Mo_add 6 = .ok (.ladd, 1) := by decide +kernel
theorem d_Mo_add_7 : decode b_Mo_add 7 = .ok (.putfield 116, 3) := by decide +kernel
theorem d_Mo_add_10 : decode b_Mo_add 10 = .ok (.aload_n 0, 1) := by decide +kernel
theorem d_Mo_add_11 : decode b_Mo_add 11 = .ok (.dup, 1) := by decide +kernel
theorem d_Mo_add_12 : decode b_Mo_add 12 = .ok (.getfield 120, 3) := by decide +kernel
theorem d_Mo_add_15 : decode b_Mo_add 15 = .ok (.iconst 1, 1) := by decide +kernel
theorem d_Mo_add_16 : decode b_Mo_add 16 = .ok (.iadd, 1) := by decide +kernel
theorem d_Mo_add_17 : decode b_Mo_add 17 = .ok (.putfield 120, 3) := by decide +kernel
theorem d_Mo_add_20 : decode b_Mo_add 20 = .ok (.aload_n 0, 1) := by decide +kernel
theorem d_Mo_add_21 : decode b_Mo_add 21 = .ok (.lload_n 1, 1) := by decide +kernel
theorem d_Mo_add_22 : decode b_Mo_add 22 = .ok (.invokevirtual 135, 3) := by decide +kernel
theorem d_Mo_add_25 : decode b_Mo_add 25 = .ok (.iconst 0, 1) := by decide +kernel
theorem d_Mo_add_26 : decode b_Mo_add 26 = .ok (.istore_n 3, 1) := by decide +kernel
theorem d_Mo_add_27 : decode b_Mo_add 27 = .ok (.iload_n 3, 1) := by decide +kernel
theorem d_Mo_add_28 : decode b_Mo_add 28 = .ok (.aload_n 0, 1) := by decide +kernel
theorem d_Mo_add_29 : decode b_Mo_add 29 = .ok (.getfield 82, 3) := by decide +kernel
theorem d_Mo_add_32 : decode b_Mo_add 32 = .ok (.if_icmp .ge 116, 3) := by decide +kernel
theorem d_Mo_add_35 : decode b_Mo_add 35 = .ok (.aload_n 0, 1) := by decide +kernel
theorem d_Mo_add_36 : decode b_Mo_add 36 = .ok (.getfield 28, 3) := by decide +kernel
theorem d_Mo_add_39 : decode b_Mo_add 39 = .ok (.iload_n 3, 1) := by decide +kernel
theorem d_Mo_add_40 : decode b_Mo_add 40 = .ok (.iaload, 1) := by decide +kernel
theorem d_Mo_add_41 : decode b_Mo_add 41 = .ok (.iconst 2, 1) := by decide +kernel
theorem d_Mo_add_42 : decode b_Mo_add 42 = .ok (.idiv, 1) := by decide +kernel
theorem d_Mo_add_43 : decode b_Mo_add 43 = .ok (.istore 4, 2) := by decide +kernel
theorem d_Mo_add_45 : decode b_Mo_add 45 = .ok (.aload_n 0, 1) := by decide +kernel
theorem d_Mo_add_46 : decode b_Mo_add 46 = .ok (.getfield 31, 3) := by decide +kernel
theorem d_Mo_add_49 : decode b_Mo_add 49 = .ok (.iconst 4, 1) := by decide +kernel
theorem d_Mo_add_50 : decode b_Mo_add 50 = .ok (.iload_n 3, 1) := by decide +kernel
theorem d_Mo_add_51 : decode b_Mo_add 51 = .ok (.imul, 1) := by decide +kernel
theorem d_Mo_add_52 : decode b_Mo_add 52 = .ok (.iload 4, 2) := by decide +kernel
theorem d_Mo_add_54 : decode b_Mo_add 54 = .ok (.iadd, 1) := by decide +kernel
theorem d_Mo_add_55 : decode b_Mo_add 55 = .ok (.dup2, 1) := by decide +kernel
theorem d_Mo_add_56 : decode b_Mo_add 56 = .ok (.laload, 1) := by decide +kernel
theorem d_Mo_add_57 : decode b_Mo_add 57 = .ok (.lload_n 1, 1) := by decide +kernel
theorem d_Mo_add_58 : decode b_Mo_add 58 = .ok (.ladd, 1) := by decide +kernel
theorem d_Mo_add_59 : decode b_Mo_add 59 = .ok (.lastore, 1) := by decide +kernel
theorem d_Mo_add_60 : decode b_Mo_add 60 = .ok (.aload_n 0, 1) := by decide +kernel
theorem d_Mo_add_61 : decode b_Mo_add 61 = .ok (.getfield 35, 3) := by decide +kernel
theorem d_Mo_add_64 : decode b_Mo_add 64 = .ok (.iconst 4, 1) := by decide +kernel
theorem d_Mo_add_65 : decode b_Mo_add 65 = .ok (.iload_n 3, 1) := by decide +kernel
theorem d_Mo_add_66 : decode b_Mo_add 66 = .ok (.imul, 1) := by decide +kernel
theorem d_Mo_add_67 : decode b_Mo_add 67 = .ok (.iload 4, 2) := by decide +kernel
theorem d_Mo_add_69 : decode b_Mo_add 69 = .ok (.iadd, 1) := by decide +kernel
theorem d_Mo_add_70 : decode b_Mo_add 70 = .ok (.dup2, 1) := by decide +kernel
theorem d_Mo_add_71 : decode b_Mo_add 71 = .ok (.laload, 1) := by decide +kernel
theorem d_Mo_add_72 : decode b_Mo_add 72 = .ok (.aload_n 0, 1) := by decide +kernel
theorem d_Mo_add_73 : decode b_Mo_add 73 = .ok (.getfield 28, 3) := by decide +kernel
theorem d_Mo_add_76 : decode b_Mo_add 76 = .ok (.iload_n 3, 1) := by decide +kernel
theorem d_Mo_add_77 : decode b_Mo_add 77 = .ok (.iaload, 1) := by decide +kernel
theorem d_Mo_add_78 : decode b_Mo_add 78 = .ok (.iconst 2, 1) := by decide +kernel
theorem d_Mo_add_79 : decode b_Mo_add 79 = .ok (.irem, 1) := by decide +kernel
theorem d_Mo_add_80 : decode b_Mo_add 80 = .ok (.ifCond .ne 7, 3) := by decide +kernel
theorem d_Mo_add_83 : decode b_Mo_add 83 = .ok (.lload_n 1, 1) := by decide +kernel
theorem d_Mo_add_84 : decode b_Mo_add 84 = .ok (.goto 4, 3) := by decide +kernel
theorem d_Mo_add_87 : decode b_Mo_add 87 = .ok (.lconst 0, 1) := by decide +kernel
theorem d_Mo_add_88 : decode b_Mo_add 88 = .ok (.ladd, 1) := by decide +kernel
theorem d_Mo_add_89 : decode b_Mo_add 89 = .ok (.lastore, 1) := by decide +kernel
theorem d_Mo_add_90 : decode b_Mo_add 90 = .ok (.iload_n 3, 1) := by decide +kernel
theorem d_Mo_add_91 : decode b_Mo_add 91 = .ok (.iconst 1, 1) := by decide +kernel
theorem d_Mo_add_92 : decode b_Mo_add 92 = .ok (.iadd, 1) := by decide +kernel
theorem d_Mo_add_93 : decode b_Mo_add 93 = .ok (.aload_n 0, 1) := by decide +kernel
theorem d_Mo_add_94 : decode b_Mo_add 94 = .ok (.getfield 82, 3) := by decide +kernel
theorem d_Mo_add_97 : decode b_Mo_add 97 = .ok (.if_icmp .ge 45, 3) := by decide +kernel
theorem d_Mo_add_100 : decode b_Mo_add 100 = .ok (.aload_n 0, 1) := by decide +kernel
theorem d_Mo_add_101 : decode b_Mo_add 101 = .ok (.getfield 28, 3) := by decide +kernel
theorem d_Mo_add_104 : decode b_Mo_add 104 = .ok (.iload_n 3, 1) := by decide +kernel
theorem d_Mo_add_105 : decode b_Mo_add 105 = .ok (.iconst 1, 1) := by decide +kernel
theorem d_Mo_add_106 : decode b_Mo_add 106 = .ok (.iadd, 1) := by decide +kernel
theorem d_Mo_add_107 : decode b_Mo_add 107 = .ok (.iaload, 1) := by decide +kernel
theorem d_Mo_add_108 : decode b_Mo_add 108 = .ok (.iconst 2, 1) := by decide +kernel
theorem d_Mo_add_109 : decode b_Mo_add 109 = .ok (.irem, 1) := by decide +kernel
theorem d_Mo_add_110 : decode b_Mo_add 110 = .ok (.ifCond .ne 32, 3) := by decide +kernel
theorem d_Mo_add_113 : decode b_Mo_add 113 = .ok (.aload_n 0, 1) := by decide +kernel
theorem d_Mo_add_114 : decode b_Mo_add 114 = .ok (.getfield 38, 3) := by decide +kernel
theorem d_Mo_add_117 : decode b_Mo_add 117 = .ok (.bipush 16, 2) := by decide +kernel
theorem d_Mo_add_119 : decode b_Mo_add 119 = .ok (.iload_n 3, 1) := by decide +kernel
theorem d_Mo_add_120 : decode b_Mo_add 120 = .ok (.imul, 1) := by decide +kernel
theorem d_Mo_add_121 : decode b_Mo_add 121 = .ok (.iconst 4, 1) := by decide +kernel
theorem d_Mo_add_122 : decode b_Mo_add 122 = .ok (.iload 4, 2) := by decide +kernel
theorem d_Mo_add_124 : decode b_Mo_add 124 = .ok (.imul, 1) := by decide +kernel
theorem d_Mo_add_125 : decode b_Mo_add 125 = .ok (.iadd, 1) := by decide +kernel
theorem d_Mo_add_126 : decode b_Mo_add 126 = .ok (.aload_n 0, 1) := by decide +kernel
theorem d_Mo_add_127 : decode b_Mo_add 127 = .ok (.getfield 28, 3) := by decide +kernel
theorem d_Mo_add_130 : decode b_Mo_add 130 = .ok (.iload_n 3, 1) := by decide +kernel
theorem d_Mo_add_131 : decode b_Mo_add 131 = .ok (.iconst 1, 1) := by decide +kernel
theorem d_Mo_add_132 : decode b_Mo_add 132 = .ok (.iadd, 1) := by decide +kernel
theorem d_Mo_add_133 : decode b_Mo_add 133 = .ok (.iaload, 1) := by decide +kernel
theorem d_Mo_add_134 : decode b_Mo_add 134 = .ok (.iconst 2, 1) := by decide +kernel
theorem d_Mo_add_135 : decode b_Mo_add 135 = .ok (.idiv, 1) := by decide +kernel
theorem d_Mo_add_136 : decode b_Mo_add 136 = .ok (.iadd, 1) := by decide +kernel
theorem d_Mo_add_137 : decode b_Mo_add 137 = .ok (.dup2, 1) := by decide +kernel
theorem d_Mo_add_138 : decode b_Mo_add 138 = .ok (.laload, 1) := by decide +kernel
theorem d_Mo_add_139 : decode b_Mo_add 139 = .ok (.lload_n 1, 1) := by decide +kernel
theorem d_Mo_add_140 : decode b_Mo_add 140 = .ok (.ladd, 1) := by decide +kernel
theorem d_Mo_add_141 : decode b_Mo_add 141 = .ok (.lastore, 1) := by decide +kernel
theorem d_Mo_add_142 : decode b_Mo_add 142 = .ok (.iinc 3 1, 3) := by decide +kernel
theorem d_Mo_add_145 : decode b_Mo_add 145 = .ok (.goto (-118), 3) := by decide +kernel
theorem d_Mo_add_148 : decode b_Mo_add 148 = .ok (.return_, 1) := by decide +kernel
theorem d_Mo_keep_0 : decode b_Mo_keep 0 = .ok (.aload_n 0, 1) := by decide +kernel
theorem d_Mo_keep_1 : decode b_Mo_keep 1 = .ok (.getfield 113, 3) := by decide +kernel
theorem d_Mo_keep_4 : decode b_Mo_keep 4 = .ok (.istore_n 3, 1) := by decide +kernel
theorem d_Mo_keep_5 : decode b_Mo_keep 5 = .ok (.iload_n 3, 1) := by decide +kernel
theorem d_Mo_keep_6 : decode b_Mo_keep 6 = .ok (.ifCond .le 78, 3) := by decide +kernel
theorem d_Mo_keep_9 : decode b_Mo_keep 9 = .ok (.aload_n 0, 1) := by decide +kernel
theorem d_Mo_keep_10 : decode b_Mo_keep 10 = .ok (.getfield 41, 3) := by decide +kernel
theorem d_Mo_keep_13 : decode b_Mo_keep 13 = .ok (.iload_n 3, 1) := by decide +kernel
theorem d_Mo_keep_14 : decode b_Mo_keep 14 = .ok (.iconst 1, 1) := by decide +kernel
theorem d_Mo_keep_15 : decode b_Mo_keep 15 = .ok (.isub, 1) := by decide +kernel
theorem d_Mo_keep_16 : decode b_Mo_keep 16 = .ok (.laload, 1) := by decide +kernel
theorem d_Mo_keep_17 : decode b_Mo_keep 17 = .ok (.lload_n 1, 1) := by decide +kernel
theorem d_Mo_keep_18 : decode b_Mo_keep 18 = .ok (.lcmp, 1) := by decide +kernel
theorem d_Mo_keep_19 : decode b_Mo_keep 19 = .ok (.ifCond .ge 65, 3) := by decide +kernel
theorem d_Mo_keep_22 : decode b_Mo_keep 22 = .ok (.aload_n 0, 1) := by decide +kernel
theorem d_Mo_keep_23 : decode b_Mo_keep 23 = .ok (.getfield 41, 3) := by decide +kernel
theorem d_Mo_keep_26 : decode b_Mo_keep 26 = .ok (.iload_n 3, 1) := by decide +kernel
theorem d_Mo_keep_27 : decode b_Mo_keep 27 = .ok (.aload_n 0, 1) := by decide +kernel
theorem d_Mo_keep_28 : decode b_Mo_keep 28 = .ok (.getfield 41, 3) := by decide +kernel
theorem d_Mo_keep_31 : decode b_Mo_keep 31 = .ok (.iload_n 3, 1) := by decide +kernel
theorem d_Mo_keep_32 : decode b_Mo_keep 32 = .ok (.iconst 1, 1) := by decide +kernel
theorem d_Mo_keep_33 : decode b_Mo_keep 33 = .ok (.isub, 1) := by decide +kernel
theorem d_Mo_keep_34 : decode b_Mo_keep 34 = .ok (.laload, 1) := by decide +kernel
theorem d_Mo_keep_35 : decode b_Mo_keep 35 = .ok (.lastore, 1) := by decide +kernel
theorem d_Mo_keep_36 : decode b_Mo_keep 36 = .ok (.iconst 0, 1) := by decide +kernel
theorem d_Mo_keep_37 : decode b_Mo_keep 37 = .ok (.istore 4, 2) := by decide +kernel
theorem d_Mo_keep_39 : decode b_Mo_keep 39 = .ok (.iload 4, 2) := by decide +kernel
theorem d_Mo_keep_41 : decode b_Mo_keep 41 = .ok (.bipush 6, 2) := by decide +kernel
theorem d_Mo_keep_43 : decode b_Mo_keep 43 = .ok (.if_icmp .ge 35, 3) := by decide +kernel
theorem d_Mo_keep_46 : decode b_Mo_keep 46 = .ok (.aload_n 0, 1) := by decide +kernel
theorem d_Mo_keep_47 : decode b_Mo_keep 47 = .ok (.getfield 44, 3) := by decide +kernel
theorem d_Mo_keep_50 : decode b_Mo_keep 50 = .ok (.bipush 6, 2) := by decide +kernel
theorem d_Mo_keep_52 : decode b_Mo_keep 52 = .ok (.iload_n 3, 1) := by decide +kernel
theorem d_Mo_keep_53 : decode b_Mo_keep 53 = .ok (.imul, 1) := by decide +kernel
theorem d_Mo_keep_54 : decode b_Mo_keep 54 = .ok (.iload 4, 2) := by decide +kernel
theorem d_Mo_keep_56 : decode b_Mo_keep 56 = .ok (.iadd, 1) := by decide +kernel
theorem d_Mo_keep_57 : decode b_Mo_keep 57 = .ok (.aload_n 0, 1) := by decide +kernel
theorem d_Mo_keep_58 : decode b_Mo_keep 58 = .ok (.getfield 44, 3) := by decide +kernel
theorem d_Mo_keep_61 : decode b_Mo_keep 61 = .ok (.bipush 6, 2) := by decide +kernel
theorem d_Mo_keep_63 : decode b_Mo_keep 63 = .ok (.iload_n 3, 1) := by decide +kernel
theorem d_Mo_keep_64 : decode b_Mo_keep 64 = .ok (.iconst 1, 1) := by decide +kernel
theorem d_Mo_keep_65 : decode b_Mo_keep 65 = .ok (.isub, 1) := by decide +kernel
theorem d_Mo_keep_66 : decode b_Mo_keep 66 = .ok (.imul, 1) := by decide +kernel
theorem d_Mo_keep_67 : decode b_Mo_keep 67 = .ok (.iload 4, 2) := by decide +kernel
theorem d_Mo_keep_69 : decode b_Mo_keep 69 = .ok (.iadd, 1) := by decide +kernel
theorem d_Mo_keep_70 : decode b_Mo_keep 70 = .ok (.iaload, 1) := by decide +kernel
theorem d_Mo_keep_71 : decode b_Mo_keep 71 = .ok (.iastore, 1) := by decide +kernel
theorem d_Mo_keep_72 : decode b_Mo_keep 72 = .ok (.iinc 4 1, 3) := by decide +kernel
theorem d_Mo_keep_75 : decode b_Mo_keep 75 = .ok (.goto (-36), 3) := by decide +kernel
theorem d_Mo_keep_78 : decode b_Mo_keep 78 = .ok (.iinc 3 (-1), 3) := by decide +kernel
theorem d_Mo_keep_81 : decode b_Mo_keep 81 = .ok (.goto (-76), 3) := by decide +kernel
theorem d_Mo_keep_84 : decode b_Mo_keep 84 = .ok (.aload_n 0, 1) := by decide +kernel
theorem d_Mo_keep_85 : decode b_Mo_keep 85 = .ok (.getfield 41, 3) := by decide +kernel
theorem d_Mo_keep_88 : decode b_Mo_keep 88 = .ok (.iload_n 3, 1) := by decide +kernel
theorem d_Mo_keep_89 : decode b_Mo_keep 89 = .ok (.lload_n 1, 1) := by decide +kernel
theorem d_Mo_keep_90 : decode b_Mo_keep 90 = .ok (.lastore, 1) := by decide +kernel
theorem d_Mo_keep_91 : decode b_Mo_keep 91 = .ok (.iconst 0, 1) := by decide +kernel
theorem d_Mo_keep_92 : decode b_Mo_keep 92 = .ok (.istore 4, 2) := by decide +kernel
theorem d_Mo_keep_94 : decode b_Mo_keep 94 = .ok (.iload 4, 2) := by decide +kernel
theorem d_Mo_keep_96 : decode b_Mo_keep 96 = .ok (.aload_n 0, 1) := by decide +kernel
theorem d_Mo_keep_97 : decode b_Mo_keep 97 = .ok (.getfield 82, 3) := by decide +kernel
theorem d_Mo_keep_100 : decode b_Mo_keep 100 = .ok (.if_icmp .ge 28, 3) := by decide +kernel
theorem d_Mo_keep_103 : decode b_Mo_keep 103 = .ok (.aload_n 0, 1) := by decide +kernel
theorem d_Mo_keep_104 : decode b_Mo_keep 104 = .ok (.getfield 44, 3) := by decide +kernel
theorem d_Mo_keep_107 : decode b_Mo_keep 107 = .ok (.bipush 6, 2) := by decide +kernel
theorem d_Mo_keep_109 : decode b_Mo_keep 109 = .ok (.iload_n 3, 1) := by decide +kernel
theorem d_Mo_keep_110 : decode b_Mo_keep 110 = .ok (.imul, 1) := by decide +kernel
theorem d_Mo_keep_111 : decode b_Mo_keep 111 = .ok (.iload 4, 2) := by decide +kernel
theorem d_Mo_keep_113 : decode b_Mo_keep 113 = .ok (.iadd, 1) := by decide +kernel
theorem d_Mo_keep_114 : decode b_Mo_keep 114 = .ok (.aload_n 0, 1) := by decide +kernel
theorem d_Mo_keep_115 : decode b_Mo_keep 115 = .ok (.getfield 28, 3) := by decide +kernel
theorem d_Mo_keep_118 : decode b_Mo_keep 118 = .ok (.iload 4, 2) := by decide +kernel
theorem d_Mo_keep_120 : decode b_Mo_keep 120 = .ok (.iaload, 1) := by decide +kernel
theorem d_Mo_keep_121 : decode b_Mo_keep 121 = .ok (.iastore, 1) := by decide +kernel
theorem d_Mo_keep_122 : decode b_Mo_keep 122 = .ok (.iinc 4 1, 3) := by decide +kernel
theorem d_Mo_keep_125 : decode b_Mo_keep 125 = .ok (.goto (-31), 3) := by decide +kernel
theorem d_Mo_keep_128 : decode b_Mo_keep 128 = .ok (.aload_n 0, 1) := by decide +kernel
theorem d_Mo_keep_129 : decode b_Mo_keep 129 = .ok (.aload_n 0, 1) := by decide +kernel
theorem d_Mo_keep_130 : decode b_Mo_keep 130 = .ok (.getfield 113, 3) := by decide +kernel
theorem d_Mo_keep_133 : decode b_Mo_keep 133 = .ok (.bipush 10, 2) := by decide +kernel
theorem d_Mo_keep_135 : decode b_Mo_keep 135 = .ok (.if_icmp .ge 12, 3) := by decide +kernel
theorem d_Mo_keep_138 : decode b_Mo_keep 138 = .ok (.aload_n 0, 1) := by decide +kernel
theorem d_Mo_keep_139 : decode b_Mo_keep 139 = .ok (.getfield 113, 3) := by decide +kernel
theorem d_Mo_keep_142 : decode b_Mo_keep 142 = .ok (.iconst 1, 1) := by decide +kernel
theorem d_Mo_keep_143 : decode b_Mo_keep 143 = .ok (.iadd, 1) := by decide +kernel
theorem d_Mo_keep_144 : decode b_Mo_keep 144 = .ok (.goto 5, 3) := by decide +kernel
theorem d_Mo_keep_147 : decode b_Mo_keep 147 = .ok (.bipush 10, 2) := by decide +kernel
theorem d_Mo_keep_149 : decode b_Mo_keep 149 = .ok (.putfield 113, 3) := by decide +kernel
theorem d_Mo_keep_152 : decode b_Mo_keep 152 = .ok (.return_, 1) := by decide +kernel
theorem d_Mo_ways_0 : decode b_Mo_ways 0 = .ok (.aload_n 0, 1) := by decide +kernel
theorem d_Mo_ways_1 : decode b_Mo_ways 1 = .ok (.invokevirtual 138, 3) := by decide +kernel
theorem d_Mo_ways_4 : decode b_Mo_ways 4 = .ok (.aload_n 0, 1) := by decide +kernel
theorem d_Mo_ways_5 : decode b_Mo_ways 5 = .ok (.getfield 120, 3) := by decide +kernel
theorem d_Mo_ways_8 : decode b_Mo_ways 8 = .ok (.ireturn, 1) := by decide +kernel
theorem d_Mo_share_0 : decode b_Mo_share 0 = .ok (.aload_n 0, 1) := by decide +kernel
theorem d_Mo_share_1 : decode b_Mo_share 1 = .ok (.iload_n 1, 1) := by decide +kernel
theorem d_Mo_share_2 : decode b_Mo_share 2 = .ok (.invokevirtual 98, 3) := by decide +kernel
theorem d_Mo_share_5 : decode b_Mo_share 5 = .ok (.ifCond .eq 11, 3) := by decide +kernel
theorem d_Mo_share_8 : decode b_Mo_share 8 = .ok (.aload_n 0, 1) := by decide +kernel
theorem d_Mo_share_9 : decode b_Mo_share 9 = .ok (.iload_n 2, 1) := by decide +kernel
theorem d_Mo_share_10 : decode b_Mo_share 10 = .ok (.invokevirtual 88, 3) := by decide +kernel
theorem d_Mo_share_13 : decode b_Mo_share 13 = .ok (.ifCond .ne 7, 3) := by decide +kernel
theorem d_Mo_share_16 : decode b_Mo_share 16 = .ok (.ldc2_w 145, 3) := by decide +kernel
theorem d_Mo_share_19 : decode b_Mo_share 19 = .ok (.lreturn, 1) := by decide +kernel
theorem d_Mo_share_20 : decode b_Mo_share 20 = .ok (.iload_n 3, 1) := by decide +kernel
theorem d_Mo_share_21 : decode b_Mo_share 21 = .ok (.ifCond .lt 8, 3) := by decide +kernel
theorem d_Mo_share_24 : decode b_Mo_share 24 = .ok (.iload_n 3, 1) := by decide +kernel
theorem d_Mo_share_25 : decode b_Mo_share 25 = .ok (.iconst 1, 1) := by decide +kernel
theorem d_Mo_share_26 : decode b_Mo_share 26 = .ok (.if_icmp .le 7, 3) := by decide +kernel
theorem d_Mo_share_29 : decode b_Mo_share 29 = .ok (.ldc2_w 147, 3) := by decide +kernel
theorem d_Mo_share_32 : decode b_Mo_share 32 = .ok (.lreturn, 1) := by decide +kernel
theorem d_Mo_share_33 : decode b_Mo_share 33 = .ok (.aload_n 0, 1) := by decide +kernel
theorem d_Mo_share_34 : decode b_Mo_share 34 = .ok (.invokevirtual 138, 3) := by decide +kernel
theorem d_Mo_share_37 : decode b_Mo_share 37 = .ok (.aload_n 0, 1) := by decide +kernel
theorem d_Mo_share_38 : decode b_Mo_share 38 = .ok (.getfield 116, 3) := by decide +kernel
theorem d_Mo_share_41 : decode b_Mo_share 41 = .ok (.lconst 0, 1) := by decide +kernel
theorem d_Mo_share_42 : decode b_Mo_share 42 = .ok (.lcmp, 1) := by decide +kernel
theorem d_Mo_share_43 : decode b_Mo_share 43 = .ok (.ifCond .ne 9, 3) := by decide +kernel
theorem d_Mo_share_46 : decode b_Mo_share 46 = .ok (.ldc2_w 149, 3) := by decide +kernel
theorem d_Mo_share_49 : decode b_Mo_share 49 = .ok (.goto 21, 3) := by decide +kernel
theorem d_Mo_share_52 : decode b_Mo_share 52 = .ok (.aload_n 0, 1) := by decide +kernel
theorem d_Mo_share_53 : decode b_Mo_share 53 = .ok (.getfield 31, 3) := by decide +kernel
theorem d_Mo_share_56 : decode b_Mo_share 56 = .ok (.iconst 4, 1) := by decide +kernel
theorem d_Mo_share_57 : decode b_Mo_share 57 = .ok (.iload_n 1, 1) := by decide +kernel
theorem d_Mo_share_58 : decode b_Mo_share 58 = .ok (.imul, 1) := by decide +kernel
theorem d_Mo_share_59 : decode b_Mo_share 59 = .ok (.iload_n 2, 1) := by decide +kernel
theorem d_Mo_share_60 : decode b_Mo_share 60 = .ok (.iadd, 1) := by decide +kernel
theorem d_Mo_share_61 : decode b_Mo_share 61 = .ok (.laload, 1) := by decide +kernel
theorem d_Mo_share_62 : decode b_Mo_share 62 = .ok (.aload_n 0, 1) := by decide +kernel
theorem d_Mo_share_63 : decode b_Mo_share 63 = .ok (.getfield 116, 3) := by decide +kernel
theorem d_Mo_share_66 : decode b_Mo_share 66 = .ok (.iload_n 3, 1) := by decide +kernel
theorem d_Mo_share_67 : decode b_Mo_share 67 = .ok (.invokestatic 151, 3) := by decide +kernel
theorem d_Mo_share_70 : decode b_Mo_share 70 = .ok (.lreturn, 1) := by decide +kernel
theorem d_Mo_lowest_0 : decode b_Mo_lowest 0 = .ok (.lload_n 0, 1) := by decide +kernel
theorem d_Mo_lowest_1 : decode b_Mo_lowest 1 = .ok (.lload_n 2, 1) := by decide +kernel
theorem d_Mo_lowest_2 : decode b_Mo_lowest 2 = .ok (.invokestatic 141, 3) := by decide +kernel
theorem d_Mo_lowest_5 : decode b_Mo_lowest 5 = .ok (.lstore 5, 2) := by decide +kernel
theorem d_Mo_lowest_7 : decode b_Mo_lowest 7 = .ok (.iload 4, 2) := by decide +kernel
theorem d_Mo_lowest_9 : decode b_Mo_lowest 9 = .ok (.ifCond .ne 10, 3) := by decide +kernel
theorem d_Mo_lowest_12 : decode b_Mo_lowest 12 = .ok (.lload_n 0, 1) := by decide +kernel
theorem d_Mo_lowest_13 : decode b_Mo_lowest 13 = .ok (.lload 5, 2) := by decide +kernel
theorem d_Mo_lowest_15 : decode b_Mo_lowest 15 = .ok (.ldiv, 1) := by decide +kernel
theorem d_Mo_lowest_16 : decode b_Mo_lowest 16 = .ok (.goto 7, 3) := by decide +kernel
theorem d_Mo_lowest_19 : decode b_Mo_lowest 19 = .ok (.lload_n 2, 1) := by decide +kernel
theorem d_Mo_lowest_20 : decode b_Mo_lowest 20 = .ok (.lload 5, 2) := by decide +kernel
theorem d_Mo_lowest_22 : decode b_Mo_lowest 22 = .ok (.ldiv, 1) := by decide +kernel
theorem d_Mo_lowest_23 : decode b_Mo_lowest 23 = .ok (.lreturn, 1) := by decide +kernel
theorem d_Mo_common_0 : decode b_Mo_common 0 = .ok (.lload_n 0, 1) := by decide +kernel
theorem d_Mo_common_1 : decode b_Mo_common 1 = .ok (.lstore 4, 2) := by decide +kernel
theorem d_Mo_common_3 : decode b_Mo_common 3 = .ok (.lload_n 2, 1) := by decide +kernel
theorem d_Mo_common_4 : decode b_Mo_common 4 = .ok (.lstore 6, 2) := by decide +kernel
theorem d_Mo_common_6 : decode b_Mo_common 6 = .ok (.lload 6, 2) := by decide +kernel
theorem d_Mo_common_8 : decode b_Mo_common 8 = .ok (.lconst 0, 1) := by decide +kernel
theorem d_Mo_common_9 : decode b_Mo_common 9 = .ok (.lcmp, 1) := by decide +kernel
theorem d_Mo_common_10 : decode b_Mo_common 10 = .ok (.ifCond .eq 21, 3) := by decide +kernel
theorem d_Mo_common_13 : decode b_Mo_common 13 = .ok (.lload 4, 2) := by decide +kernel
theorem d_Mo_common_15 : decode b_Mo_common 15 = .ok (.lload 6, 2) := by decide +kernel
theorem d_Mo_common_17 : decode b_Mo_common 17 = .ok (.lrem, 1) := by decide +kernel
theorem d_Mo_common_18 : decode b_Mo_common 18 = .ok (.lstore 8, 2) := by decide +kernel
theorem d_Mo_common_20 : decode b_Mo_common 20 = .ok (.lload 6, 2) := by decide +kernel
theorem d_Mo_common_22 : decode b_Mo_common 22 = .ok (.lstore 4, 2) := by decide +kernel
theorem d_Mo_common_24 : decode b_Mo_common 24 = .ok (.lload 8, 2) := by decide +kernel
theorem d_Mo_common_26 : decode b_Mo_common 26 = .ok (.lstore 6, 2) := by decide +kernel
theorem d_Mo_common_28 : decode b_Mo_common 28 = .ok (.goto (-22), 3) := by decide +kernel
theorem d_Mo_common_31 : decode b_Mo_common 31 = .ok (.lload 4, 2) := by decide +kernel
theorem d_Mo_common_33 : decode b_Mo_common 33 = .ok (.lreturn, 1) := by decide +kernel
theorem d_Mo_begin_0 : decode b_Mo_begin 0 = .ok (.aload_n 0, 1) := by decide +kernel
theorem d_Mo_begin_1 : decode b_Mo_begin 1 = .ok (.iload_n 1, 1) := by decide +kernel
theorem d_Mo_begin_2 : decode b_Mo_begin 2 = .ok (.invokevirtual 98, 3) := by decide +kernel
theorem d_Mo_begin_5 : decode b_Mo_begin 5 = .ok (.ifCond .eq 11, 3) := by decide +kernel
theorem d_Mo_begin_8 : decode b_Mo_begin 8 = .ok (.aload_n 0, 1) := by decide +kernel
theorem d_Mo_begin_9 : decode b_Mo_begin 9 = .ok (.iload_n 2, 1) := by decide +kernel
theorem d_Mo_begin_10 : decode b_Mo_begin 10 = .ok (.invokevirtual 88, 3) := by decide +kernel
theorem d_Mo_begin_13 : decode b_Mo_begin 13 = .ok (.ifCond .ne 7, 3) := by decide +kernel
theorem d_Mo_begin_16 : decode b_Mo_begin 16 = .ok (.ldc2_w 145, 3) := by decide +kernel
theorem d_Mo_begin_19 : decode b_Mo_begin 19 = .ok (.lreturn, 1) := by decide +kernel
theorem d_Mo_begin_20 : decode b_Mo_begin 20 = .ok (.iload_n 3, 1) := by decide +kernel
theorem d_Mo_begin_21 : decode b_Mo_begin 21 = .ok (.ifCond .lt 8, 3) := by decide +kernel
theorem d_Mo_begin_24 : decode b_Mo_begin 24 = .ok (.iload_n 3, 1) := by decide +kernel
theorem d_Mo_begin_25 : decode b_Mo_begin 25 = .ok (.iconst 1, 1) := by decide +kernel
theorem d_Mo_begin_26 : decode b_Mo_begin 26 = .ok (.if_icmp .le 7, 3) := by decide +kernel
theorem d_Mo_begin_29 : decode b_Mo_begin 29 = .ok (.ldc2_w 147, 3) := by decide +kernel
theorem d_Mo_begin_32 : decode b_Mo_begin 32 = .ok (.lreturn, 1) := by decide +kernel
theorem d_Mo_begin_33 : decode b_Mo_begin 33 = .ok (.aload_n 0, 1) := by decide +kernel
theorem d_Mo_begin_34 : decode b_Mo_begin 34 = .ok (.invokevirtual 138, 3) := by decide +kernel
theorem d_Mo_begin_37 : decode b_Mo_begin 37 = .ok (.aload_n 0, 1) := by decide +kernel
theorem d_Mo_begin_38 : decode b_Mo_begin 38 = .ok (.getfield 116, 3) := by decide +kernel
theorem d_Mo_begin_41 : decode b_Mo_begin 41 = .ok (.lconst 0, 1) := by decide +kernel
theorem d_Mo_begin_42 : decode b_Mo_begin 42 = .ok (.lcmp, 1) := by decide +kernel
theorem d_Mo_begin_43 : decode b_Mo_begin 43 = .ok (.ifCond .ne 9, 3) := by decide +kernel
theorem d_Mo_begin_46 : decode b_Mo_begin 46 = .ok (.ldc2_w 149, 3) := by decide +kernel
theorem d_Mo_begin_49 : decode b_Mo_begin 49 = .ok (.goto 21, 3) := by decide +kernel
theorem d_Mo_begin_52 : decode b_Mo_begin 52 = .ok (.aload_n 0, 1) := by decide +kernel
theorem d_Mo_begin_53 : decode b_Mo_begin 53 = .ok (.getfield 35, 3) := by decide +kernel
theorem d_Mo_begin_56 : decode b_Mo_begin 56 = .ok (.iconst 4, 1) := by decide +kernel
theorem d_Mo_begin_57 : decode b_Mo_begin 57 = .ok (.iload_n 1, 1) := by decide +kernel
theorem d_Mo_begin_58 : decode b_Mo_begin 58 = .ok (.imul, 1) := by decide +kernel
theorem d_Mo_begin_59 : decode b_Mo_begin 59 = .ok (.iload_n 2, 1) := by decide +kernel
theorem d_Mo_begin_60 : decode b_Mo_begin 60 = .ok (.iadd, 1) := by decide +kernel
theorem d_Mo_begin_61 : decode b_Mo_begin 61 = .ok (.laload, 1) := by decide +kernel
theorem d_Mo_begin_62 : decode b_Mo_begin 62 = .ok (.aload_n 0, 1) := by decide +kernel
theorem d_Mo_begin_63 : decode b_Mo_begin 63 = .ok (.getfield 116, 3) := by decide +kernel
theorem d_Mo_begin_66 : decode b_Mo_begin 66 = .ok (.iload_n 3, 1) := by decide +kernel
theorem d_Mo_begin_67 : decode b_Mo_begin 67 = .ok (.invokestatic 151, 3) := by decide +kernel
theorem d_Mo_begin_70 : decode b_Mo_begin 70 = .ok (.lreturn, 1) := by decide +kernel
theorem d_Mo_pair_0 : decode b_Mo_pair 0 = .ok (.aload_n 0, 1) := by decide +kernel
theorem d_Mo_pair_1 : decode b_Mo_pair 1 = .ok (.iload_n 1, 1) := by decide +kernel
theorem d_Mo_pair_2 : decode b_Mo_pair 2 = .ok (.invokevirtual 98, 3) := by decide +kernel
theorem d_Mo_pair_5 : decode b_Mo_pair 5 = .ok (.ifCond .eq 29, 3) := by decide +kernel
theorem d_Mo_pair_8 : decode b_Mo_pair 8 = .ok (.iload_n 1, 1) := by decide +kernel
theorem d_Mo_pair_9 : decode b_Mo_pair 9 = .ok (.aload_n 0, 1) := by decide +kernel
theorem d_Mo_pair_10 : decode b_Mo_pair 10 = .ok (.getfield 82, 3) := by decide +kernel
theorem d_Mo_pair_13 : decode b_Mo_pair 13 = .ok (.iconst 1, 1) := by decide +kernel
theorem d_Mo_pair_14 : decode b_Mo_pair 14 = .ok (.isub, 1) := by decide +kernel
theorem d_Mo_pair_15 : decode b_Mo_pair 15 = .ok (.if_icmp .eq 19, 3) := by decide +kernel
theorem d_Mo_pair_18 : decode b_Mo_pair 18 = .ok (.aload_n 0, 1) := by decide +kernel
theorem d_Mo_pair_19 : decode b_Mo_pair 19 = .ok (.iload_n 2, 1) := by decide +kernel
theorem d_Mo_pair_20 : decode b_Mo_pair 20 = .ok (.invokevirtual 88, 3) := by decide +kernel
theorem d_Mo_pair_23 : decode b_Mo_pair 23 = .ok (.ifCond .eq 11, 3) := by decide +kernel
theorem d_Mo_pair_26 : decode b_Mo_pair 26 = .ok (.aload_n 0, 1) := by decide +kernel
theorem d_Mo_pair_27 : decode b_Mo_pair 27 = .ok (.iload_n 3, 1) := by decide +kernel
theorem d_Mo_pair_28 : decode b_Mo_pair 28 = .ok (.invokevirtual 88, 3) := by decide +kernel
theorem d_Mo_pair_31 : decode b_Mo_pair 31 = .ok (.ifCond .ne 7, 3) := by decide +kernel
theorem d_Mo_pair_34 : decode b_Mo_pair 34 = .ok (.ldc2_w 145, 3) := by decide +kernel
theorem d_Mo_pair_37 : decode b_Mo_pair 37 = .ok (.lreturn, 1) := by decide +kernel
theorem d_Mo_pair_38 : decode b_Mo_pair 38 = .ok (.iload 4, 2) := by decide +kernel
theorem d_Mo_pair_40 : decode b_Mo_pair 40 = .ok (.ifCond .lt 9, 3) := by decide +kernel
theorem d_Mo_pair_43 : decode b_Mo_pair 43 = .ok (.iload 4, 2) := by decide +kernel
theorem d_Mo_pair_45 : decode b_Mo_pair 45 = .ok (.iconst 1, 1) := by decide +kernel
theorem d_Mo_pair_46 : decode b_Mo_pair 46 = .ok (.if_icmp .le 7, 3) := by decide +kernel
theorem d_Mo_pair_49 : decode b_Mo_pair 49 = .ok (.ldc2_w 147, 3) := by decide +kernel
theorem d_Mo_pair_52 : decode b_Mo_pair 52 = .ok (.lreturn, 1) := by decide +kernel
theorem d_Mo_pair_53 : decode b_Mo_pair 53 = .ok (.aload_n 0, 1) := by decide +kernel
theorem d_Mo_pair_54 : decode b_Mo_pair 54 = .ok (.invokevirtual 138, 3) := by decide +kernel
theorem d_Mo_pair_57 : decode b_Mo_pair 57 = .ok (.aload_n 0, 1) := by decide +kernel
theorem d_Mo_pair_58 : decode b_Mo_pair 58 = .ok (.getfield 116, 3) := by decide +kernel
theorem d_Mo_pair_61 : decode b_Mo_pair 61 = .ok (.lconst 0, 1) := by decide +kernel
theorem d_Mo_pair_62 : decode b_Mo_pair 62 = .ok (.lcmp, 1) := by decide +kernel
theorem d_Mo_pair_63 : decode b_Mo_pair 63 = .ok (.ifCond .ne 9, 3) := by decide +kernel
theorem d_Mo_pair_66 : decode b_Mo_pair 66 = .ok (.ldc2_w 149, 3) := by decide +kernel
theorem d_Mo_pair_69 : decode b_Mo_pair 69 = .ok (.goto 27, 3) := by decide +kernel
theorem d_Mo_pair_72 : decode b_Mo_pair 72 = .ok (.aload_n 0, 1) := by decide +kernel
theorem d_Mo_pair_73 : decode b_Mo_pair 73 = .ok (.getfield 38, 3) := by decide +kernel
theorem d_Mo_pair_76 : decode b_Mo_pair 76 = .ok (.bipush 16, 2) := by decide +kernel
theorem d_Mo_pair_78 : decode b_Mo_pair 78 = .ok (.iload_n 1, 1) := by decide +kernel
theorem d_Mo_pair_79 : decode b_Mo_pair 79 = .ok (.imul, 1) := by decide +kernel
theorem d_Mo_pair_80 : decode b_Mo_pair 80 = .ok (.iconst 4, 1) := by decide +kernel
theorem d_Mo_pair_81 : decode b_Mo_pair 81 = .ok (.iload_n 2, 1) := by decide +kernel
theorem d_Mo_pair_82 : decode b_Mo_pair 82 = .ok (.imul, 1) := by decide +kernel
theorem d_Mo_pair_83 : decode b_Mo_pair 83 = .ok (.iadd, 1) := by decide +kernel
theorem d_Mo_pair_84 : decode b_Mo_pair 84 = .ok (.iload_n 3, 1) := by decide +kernel
theorem d_Mo_pair_85 : decode b_Mo_pair 85 = .ok (.iadd, 1) := by decide +kernel
theorem d_Mo_pair_86 : decode b_Mo_pair 86 = .ok (.laload, 1) := by decide +kernel
theorem d_Mo_pair_87 : decode b_Mo_pair 87 = .ok (.aload_n 0, 1) := by decide +kernel
theorem d_Mo_pair_88 : decode b_Mo_pair 88 = .ok (.getfield 116, 3) := by decide +kernel
theorem d_Mo_pair_91 : decode b_Mo_pair 91 = .ok (.iload 4, 2) := by decide +kernel
theorem d_Mo_pair_93 : decode b_Mo_pair 93 = .ok (.invokestatic 151, 3) := by decide +kernel
theorem d_Mo_pair_96 : decode b_Mo_pair 96 = .ok (.lreturn, 1) := by decide +kernel
theorem d_Mo_top_0 : decode b_Mo_top 0 = .ok (.aload_n 0, 1) := by decide +kernel
theorem d_Mo_top_1 : decode b_Mo_top 1 = .ok (.iload_n 1, 1) := by decide +kernel
theorem d_Mo_top_2 : decode b_Mo_top 2 = .ok (.invokevirtual 98, 3) := by decide +kernel
theorem d_Mo_top_5 : decode b_Mo_top 5 = .ok (.ifCond .ne 5, 3) := by decide +kernel
theorem d_Mo_top_8 : decode b_Mo_top 8 = .ok (.iconst (-1), 1) := by decide +kernel
theorem d_Mo_top_9 : decode b_Mo_top 9 = .ok (.ireturn, 1) := by decide +kernel
theorem d_Mo_top_10 : decode b_Mo_top 10 = .ok (.aload_n 0, 1) := by decide +kernel
theorem d_Mo_top_11 : decode b_Mo_top 11 = .ok (.invokevirtual 138, 3) := by decide +kernel
theorem d_Mo_top_14 : decode b_Mo_top 14 = .ok (.aload_n 0, 1) := by decide +kernel
theorem d_Mo_top_15 : decode b_Mo_top 15 = .ok (.getfield 116, 3) := by decide +kernel
theorem d_Mo_top_18 : decode b_Mo_top 18 = .ok (.lconst 0, 1) := by decide +kernel
theorem d_Mo_top_19 : decode b_Mo_top 19 = .ok (.lcmp, 1) := by decide +kernel
theorem d_Mo_top_20 : decode b_Mo_top 20 = .ok (.ifCond .ne 6, 3) := by decide +kernel
theorem d_Mo_top_23 : decode b_Mo_top 23 = .ok (.bipush (-3), 2) := by decide +kernel
theorem d_Mo_top_25 : decode b_Mo_top 25 = .ok (.ireturn, 1) := by decide +kernel
theorem d_Mo_top_26 : decode b_Mo_top 26 = .ok (.iconst 0, 1) := by decide +kernel
theorem d_Mo_top_27 : decode b_Mo_top 27 = .ok (.istore_n 2, 1) := by decide +kernel
theorem d_Mo_top_28 : decode b_Mo_top 28 = .ok (.iconst 1, 1) := by decide +kernel
theorem d_Mo_top_29 : decode b_Mo_top 29 = .ok (.istore_n 3, 1) := by decide +kernel
theorem d_Mo_top_30 : decode b_Mo_top 30 = .ok (.iload_n 3, 1) := by decide +kernel
theorem d_Mo_top_31 : decode b_Mo_top 31 = .ok (.aload_n 0, 1) := by decide +kernel
theorem d_Mo_top_32 : decode b_Mo_top 32 = .ok (.getfield 75, 3) := by decide +kernel
theorem d_Mo_top_35 : decode b_Mo_top 35 = .ok (.if_icmp .ge 39, 3) := by decide +kernel
theorem d_Mo_top_38 : decode b_Mo_top 38 = .ok (.aload_n 0, 1) := by decide +kernel
theorem d_Mo_top_39 : decode b_Mo_top 39 = .ok (.getfield 31, 3) := by decide +kernel
theorem d_Mo_top_42 : decode b_Mo_top 42 = .ok (.iconst 4, 1) := by decide +kernel
theorem d_Mo_top_43 : decode b_Mo_top 43 = .ok (.iload_n 1, 1) := by decide +kernel
theorem d_Mo_top_44 : decode b_Mo_top 44 = .ok (.imul, 1) := by decide +kernel
theorem d_Mo_top_45 : decode b_Mo_top 45 = .ok (.iload_n 3, 1) := by decide +kernel
theorem d_Mo_top_46 : decode b_Mo_top 46 = .ok (.iadd, 1) := by decide +kernel
theorem d_Mo_top_47 : decode b_Mo_top 47 = .ok (.laload, 1) := by decide +kernel
theorem d_Mo_top_48 : decode b_Mo_top 48 = .ok (.aload_n 0, 1) := by decide +kernel
theorem d_Mo_top_49 : decode b_Mo_top 49 = .ok (.getfield 31, 3) := by decide +kernel
theorem d_Mo_top_52 : decode b_Mo_top 52 = .ok (.iconst 4, 1) := by decide +kernel
theorem d_Mo_top_53 : decode b_Mo_top 53 = .ok (.iload_n 1, 1) := by decide +kernel
theorem d_Mo_top_54 : decode b_Mo_top 54 = .ok (.imul, 1) := by decide +kernel
theorem d_Mo_top_55 : decode b_Mo_top 55 = .ok (.iload_n 2, 1) := by decide +kernel
theorem d_Mo_top_56 : decode b_Mo_top 56 = .ok (.iadd, 1) := by decide +kernel
theorem d_Mo_top_57 : decode b_Mo_top 57 = .ok (.laload, 1) := by decide +kernel
theorem d_Mo_top_58 : decode b_Mo_top 58 = .ok (.lcmp, 1) := by decide +kernel
theorem d_Mo_top_59 : decode b_Mo_top 59 = .ok (.ifCond .le 7, 3) := by decide +kernel
theorem d_Mo_top_62 : decode b_Mo_top 62 = .ok (.iload_n 3, 1) := by decide +kernel
theorem d_Mo_top_63 : decode b_Mo_top 63 = .ok (.goto 4, 3) := by decide +kernel
theorem d_Mo_top_66 : decode b_Mo_top 66 = .ok (.iload_n 2, 1) := by decide +kernel
theorem d_Mo_top_67 : decode b_Mo_top 67 = .ok (.istore_n 2, 1) := by decide +kernel
theorem d_Mo_top_68 : decode b_Mo_top 68 = .ok (.iinc 3 1, 3) := by decide +kernel
theorem d_Mo_top_71 : decode b_Mo_top 71 = .ok (.goto (-41), 3) := by decide +kernel
theorem d_Mo_top_74 : decode b_Mo_top 74 = .ok (.iload_n 2, 1) := by decide +kernel
theorem d_Mo_top_75 : decode b_Mo_top 75 = .ok (.ireturn, 1) := by decide +kernel
theorem d_Mo_best_0 : decode b_Mo_best 0 = .ok (.iload_n 1, 1) := by decide +kernel
theorem d_Mo_best_1 : decode b_Mo_best 1 = .ok (.ifCond .lt 9, 3) := by decide +kernel
theorem d_Mo_best_4 : decode b_Mo_best 4 = .ok (.iload_n 1, 1) := by decide +kernel
theorem d_Mo_best_5 : decode b_Mo_best 5 = .ok (.bipush 9, 2) := by decide +kernel
theorem d_Mo_best_7 : decode b_Mo_best 7 = .ok (.if_icmp .le 7, 3) := by decide +kernel
theorem d_Mo_best_10 : decode b_Mo_best 10 = .ok (.ldc2_w 147, 3) := by decide +kernel
theorem d_Mo_best_13 : decode b_Mo_best 13 = .ok (.lreturn, 1) := by decide +kernel
theorem d_Mo_best_14 : decode b_Mo_best 14 = .ok (.aload_n 0, 1) := by decide +kernel
theorem d_Mo_best_15 : decode b_Mo_best 15 = .ok (.invokevirtual 138, 3) := by decide +kernel
theorem d_Mo_best_18 : decode b_Mo_best 18 = .ok (.iload_n 1, 1) := by decide +kernel
theorem d_Mo_best_19 : decode b_Mo_best 19 = .ok (.aload_n 0, 1) := by decide +kernel
theorem d_Mo_best_20 : decode b_Mo_best 20 = .ok (.getfield 113, 3) := by decide +kernel
theorem d_Mo_best_23 : decode b_Mo_best 23 = .ok (.if_icmp .ge 12, 3) := by decide +kernel
theorem d_Mo_best_26 : decode b_Mo_best 26 = .ok (.aload_n 0, 1) := by decide +kernel
theorem d_Mo_best_27 : decode b_Mo_best 27 = .ok (.getfield 41, 3) := by decide +kernel
theorem d_Mo_best_30 : decode b_Mo_best 30 = .ok (.iload_n 1, 1) := by decide +kernel
theorem d_Mo_best_31 : decode b_Mo_best 31 = .ok (.laload, 1) := by decide +kernel
theorem d_Mo_best_32 : decode b_Mo_best 32 = .ok (.goto 6, 3) := by decide +kernel
theorem d_Mo_best_35 : decode b_Mo_best 35 = .ok (.ldc2_w 149, 3) := by decide +kernel
theorem d_Mo_best_38 : decode b_Mo_best 38 = .ok (.lreturn, 1) := by decide +kernel
theorem d_Mo_bestAt_0 : decode b_Mo_bestAt 0 = .ok (.iload_n 1, 1) := by decide +kernel
theorem d_Mo_bestAt_1 : decode b_Mo_bestAt 1 = .ok (.ifCond .lt 9, 3) := by decide +kernel
theorem d_Mo_bestAt_4 : decode b_Mo_bestAt 4 = .ok (.iload_n 1, 1) := by decide +kernel
theorem d_Mo_bestAt_5 : decode b_Mo_bestAt 5 = .ok (.bipush 9, 2) := by decide +kernel
theorem d_Mo_bestAt_7 : decode b_Mo_bestAt 7 = .ok (.if_icmp .le 6, 3) := by decide +kernel
theorem d_Mo_bestAt_10 : decode b_Mo_bestAt 10 = .ok (.bipush (-2), 2) := by decide +kernel
theorem d_Mo_bestAt_12 : decode b_Mo_bestAt 12 = .ok (.ireturn, 1) := by decide +kernel
theorem d_Mo_bestAt_13 : decode b_Mo_bestAt 13 = .ok (.aload_n 0, 1) := by decide +kernel
theorem d_Mo_bestAt_14 : decode b_Mo_bestAt 14 = .ok (.invokevirtual 138, 3) := by decide +kernel
theorem d_Mo_bestAt_17 : decode b_Mo_bestAt 17 = .ok (.iload_n 1, 1) := by decide +kernel
theorem d_Mo_bestAt_18 : decode b_Mo_bestAt 18 = .ok (.aload_n 0, 1) := by decide +kernel
theorem d_Mo_bestAt_19 : decode b_Mo_bestAt 19 = .ok (.getfield 113, 3) := by decide +kernel
theorem d_Mo_bestAt_22 : decode b_Mo_bestAt 22 = .ok (.if_icmp .lt 6, 3) := by decide +kernel
theorem d_Mo_bestAt_25 : decode b_Mo_bestAt 25 = .ok (.bipush (-3), 2) := by decide +kernel
theorem d_Mo_bestAt_27 : decode b_Mo_bestAt 27 = .ok (.ireturn, 1) := by decide +kernel
theorem d_Mo_bestAt_28 : decode b_Mo_bestAt 28 = .ok (.aload_n 0, 1) := by decide +kernel
theorem d_Mo_bestAt_29 : decode b_Mo_bestAt 29 = .ok (.iload_n 2, 1) := by decide +kernel
theorem d_Mo_bestAt_30 : decode b_Mo_bestAt 30 = .ok (.invokevirtual 98, 3) := by decide +kernel
theorem d_Mo_bestAt_33 : decode b_Mo_bestAt 33 = .ok (.ifCond .eq 17, 3) := by decide +kernel
theorem d_Mo_bestAt_36 : decode b_Mo_bestAt 36 = .ok (.aload_n 0, 1) := by decide +kernel
theorem d_Mo_bestAt_37 : decode b_Mo_bestAt 37 = .ok (.getfield 44, 3) := by decide +kernel
theorem d_Mo_bestAt_40 : decode b_Mo_bestAt 40 = .ok (.bipush 6, 2) := by decide +kernel
theorem d_Mo_bestAt_42 : decode b_Mo_bestAt 42 = .ok (.iload_n 1, 1) := by decide +kernel
theorem d_Mo_bestAt_43 : decode b_Mo_bestAt 43 = .ok (.imul, 1) := by decide +kernel
theorem d_Mo_bestAt_44 : decode b_Mo_bestAt 44 = .ok (.iload_n 2, 1) := by decide +kernel
theorem d_Mo_bestAt_45 : decode b_Mo_bestAt 45 = .ok (.iadd, 1) := by decide +kernel
theorem d_Mo_bestAt_46 : decode b_Mo_bestAt 46 = .ok (.iaload, 1) := by decide +kernel
theorem d_Mo_bestAt_47 : decode b_Mo_bestAt 47 = .ok (.goto 4, 3) := by decide +kernel
theorem d_Mo_bestAt_50 : decode b_Mo_bestAt 50 = .ok (.iconst (-1), 1) := by decide +kernel
theorem d_Mo_bestAt_51 : decode b_Mo_bestAt 51 = .ok (.ireturn, 1) := by decide +kernel
theorem d_Mo_drawn_0 : decode b_Mo_drawn 0 = .ok (.aload_n 0, 1) := by decide +kernel
theorem d_Mo_drawn_1 : decode b_Mo_drawn 1 = .ok (.invokevirtual 138, 3) := by decide +kernel
theorem d_Mo_drawn_4 : decode b_Mo_drawn 4 = .ok (.aload_n 0, 1) := by decide +kernel
theorem d_Mo_drawn_5 : decode b_Mo_drawn 5 = .ok (.getfield 116, 3) := by decide +kernel
theorem d_Mo_drawn_8 : decode b_Mo_drawn 8 = .ok (.lconst 0, 1) := by decide +kernel
theorem d_Mo_drawn_9 : decode b_Mo_drawn 9 = .ok (.lcmp, 1) := by decide +kernel
theorem d_Mo_drawn_10 : decode b_Mo_drawn 10 = .ok (.ifCond .ne 7, 3) := by decide +kernel
theorem d_Mo_drawn_13 : decode b_Mo_drawn 13 = .ok (.ldc2_w 149, 3) := by decide +kernel
theorem d_Mo_drawn_16 : decode b_Mo_drawn 16 = .ok (.lreturn, 1) := by decide +kernel
theorem d_Mo_drawn_17 : decode b_Mo_drawn 17 = .ok (.iload_n 1, 1) := by decide +kernel
theorem d_Mo_drawn_18 : decode b_Mo_drawn 18 = .ok (.ldc 155, 2) := by decide +kernel
theorem d_Mo_drawn_20 : decode b_Mo_drawn 20 = .ok (.imul, 1) := by decide +kernel
theorem d_Mo_drawn_21 : decode b_Mo_drawn 21 = .ok (.ldc 156, 2) := by decide +kernel
theorem d_Mo_drawn_23 : decode b_Mo_drawn 23 = .ok (.iadd, 1) := by decide +kernel
theorem d_Mo_drawn_24 : decode b_Mo_drawn 24 = .ok (.istore_n 2, 1) := by decide +kernel
theorem d_Mo_drawn_25 : decode b_Mo_drawn 25 = .ok (.iload_n 2, 1) := by decide +kernel
theorem d_Mo_drawn_26 : decode b_Mo_drawn 26 = .ok (.iconst 1, 1) := by decide +kernel
theorem d_Mo_drawn_27 : decode b_Mo_drawn 27 = .ok (.iushr, 1) := by decide +kernel
theorem d_Mo_drawn_28 : decode b_Mo_drawn 28 = .ok (.i2l, 1) := by decide +kernel
theorem d_Mo_drawn_29 : decode b_Mo_drawn 29 = .ok (.lstore_n 3, 1) := by decide +kernel
theorem d_Mo_drawn_30 : decode b_Mo_drawn 30 = .ok (.iload_n 2, 1) := by decide +kernel
theorem d_Mo_drawn_31 : decode b_Mo_drawn 31 = .ok (.ldc 155, 2) := by decide +kernel
theorem d_Mo_drawn_33 : decode b_Mo_drawn 33 = .ok (.imul, 1) := by decide +kernel
theorem d_Mo_drawn_34 : decode b_Mo_drawn 34 = .ok (.ldc 156, 2) := by decide +kernel
theorem d_Mo_drawn_36 : decode b_Mo_drawn 36 = .ok (.iadd, 1) := by decide +kernel
theorem d_Mo_drawn_37 : decode b_Mo_drawn 37 = .ok (.istore_n 2, 1) := by decide +kernel
theorem d_Mo_drawn_38 : decode b_Mo_drawn 38 = .ok (.ldc2_w 157, 3) := by decide +kernel
theorem d_Mo_drawn_41 : decode b_Mo_drawn 41 = .ok (.lload_n 3, 1) := by decide +kernel
theorem d_Mo_drawn_42 : decode b_Mo_drawn 42 = .ok (.lmul, 1) := by decide +kernel
theorem d_Mo_drawn_43 : decode b_Mo_drawn 43 = .ok (.iload_n 2, 1) := by decide +kernel
theorem d_Mo_drawn_44 : decode b_Mo_drawn 44 = .ok (.iconst 1, 1) := by decide +kernel
theorem d_Mo_drawn_45 : decode b_Mo_drawn 45 = .ok (.iushr, 1) := by decide +kernel
theorem d_Mo_drawn_46 : decode b_Mo_drawn 46 = .ok (.i2l, 1) := by decide +kernel
theorem d_Mo_drawn_47 : decode b_Mo_drawn 47 = .ok (.ladd, 1) := by decide +kernel
theorem d_Mo_drawn_48 : decode b_Mo_drawn 48 = .ok (.aload_n 0, 1) := by decide +kernel
theorem d_Mo_drawn_49 : decode b_Mo_drawn 49 = .ok (.getfield 116, 3) := by decide +kernel
theorem d_Mo_drawn_52 : decode b_Mo_drawn 52 = .ok (.lrem, 1) := by decide +kernel
theorem d_Mo_drawn_53 : decode b_Mo_drawn 53 = .ok (.lstore 5, 2) := by decide +kernel
theorem d_Mo_drawn_55 : decode b_Mo_drawn 55 = .ok (.aload_n 0, 1) := by decide +kernel
theorem d_Mo_drawn_56 : decode b_Mo_drawn 56 = .ok (.iconst 1, 1) := by decide +kernel
theorem d_Mo_drawn_57 : decode b_Mo_drawn 57 = .ok (.invokevirtual 123, 3) := by decide +kernel
theorem d_Mo_drawn_60 : decode b_Mo_drawn 60 = .ok (.istore 7, 2) := by decide +kernel
theorem d_Mo_drawn_62 : decode b_Mo_drawn 62 = .ok (.aload_n 0, 1) := by decide +kernel
theorem d_Mo_drawn_63 : decode b_Mo_drawn 63 = .ok (.invokevirtual 127, 3) := by decide +kernel
theorem d_Mo_drawn_66 : decode b_Mo_drawn 66 = .ok (.lstore 8, 2) := by decide +kernel
theorem d_Mo_drawn_68 : decode b_Mo_drawn 68 = .ok (.iload 7, 2) := by decide +kernel
theorem d_Mo_drawn_70 : decode b_Mo_drawn 70 = .ok (.ifCond .eq 34, 3) := by decide +kernel
theorem d_Mo_drawn_73 : decode b_Mo_drawn 73 = .ok (.lload 8, 2) := by decide +kernel
theorem d_Mo_drawn_75 : decode b_Mo_drawn 75 = .ok (.lload 5, 2) := by decide +kernel
theorem d_Mo_drawn_77 : decode b_Mo_drawn 77 = .ok (.lcmp, 1) := by decide +kernel
theorem d_Mo_drawn_78 : decode b_Mo_drawn 78 = .ok (.ifCond .gt 26, 3) := by decide +kernel
theorem d_Mo_drawn_81 : decode b_Mo_drawn 81 = .ok (.lload 5, 2) := by decide +kernel
theorem d_Mo_drawn_83 : decode b_Mo_drawn 83 = .ok (.lload 8, 2) := by decide +kernel
theorem d_Mo_drawn_85 : decode b_Mo_drawn 85 = .ok (.lsub, 1) := by decide +kernel
theorem d_Mo_drawn_86 : decode b_Mo_drawn 86 = .ok (.lstore 5, 2) := by decide +kernel
theorem d_Mo_drawn_88 : decode b_Mo_drawn 88 = .ok (.aload_n 0, 1) := by decide +kernel
theorem d_Mo_drawn_89 : decode b_Mo_drawn 89 = .ok (.iconst 0, 1) := by decide +kernel
theorem d_Mo_drawn_90 : decode b_Mo_drawn 90 = .ok (.invokevirtual 123, 3) := by decide +kernel
theorem d_Mo_drawn_93 : decode b_Mo_drawn 93 = .ok (.istore 7, 2) := by decide +kernel
theorem d_Mo_drawn_95 : decode b_Mo_drawn 95 = .ok (.aload_n 0, 1) := by decide +kernel
theorem d_Mo_drawn_96 : decode b_Mo_drawn 96 = .ok (.invokevirtual 127, 3) := by decide +kernel
theorem d_Mo_drawn_99 : decode b_Mo_drawn 99 = .ok (.lstore 8, 2) := by decide +kernel
theorem d_Mo_drawn_101 : decode b_Mo_drawn 101 = .ok (.goto (-33), 3) := by decide +kernel
theorem d_Mo_drawn_104 : decode b_Mo_drawn 104 = .ok (.iconst 0, 1) := by decide +kernel
theorem d_Mo_drawn_105 : decode b_Mo_drawn 105 = .ok (.istore 10, 2) := by decide +kernel
theorem d_Mo_drawn_107 : decode b_Mo_drawn 107 = .ok (.iload 10, 2) := by decide +kernel
theorem d_Mo_drawn_109 : decode b_Mo_drawn 109 = .ok (.aload_n 0, 1) := by decide +kernel
theorem d_Mo_drawn_110 : decode b_Mo_drawn 110 = .ok (.getfield 82, 3) := by decide +kernel
theorem d_Mo_drawn_113 : decode b_Mo_drawn 113 = .ok (.if_icmp .ge 23, 3) := by decide +kernel
theorem d_Mo_drawn_116 : decode b_Mo_drawn 116 = .ok (.aload_n 0, 1) := by decide +kernel
theorem d_Mo_drawn_117 : decode b_Mo_drawn 117 = .ok (.getfield 47, 3) := by decide +kernel
theorem d_Mo_drawn_120 : decode b_Mo_drawn 120 = .ok (.iload 10, 2) := by decide +kernel
theorem d_Mo_drawn_122 : decode b_Mo_drawn 122 = .ok (.aload_n 0, 1) := by decide +kernel
theorem d_Mo_drawn_123 : decode b_Mo_drawn 123 = .ok (.getfield 28, 3) := by decide +kernel
theorem d_Mo_drawn_126 : decode b_Mo_drawn 126 = .ok (.iload 10, 2) := by decide +kernel
theorem d_Mo_drawn_128 : decode b_Mo_drawn 128 = .ok (.iaload, 1) := by decide +kernel
theorem d_Mo_drawn_129 : decode b_Mo_drawn 129 = .ok (.iastore, 1) := by decide +kernel
theorem d_Mo_drawn_130 : decode b_Mo_drawn 130 = .ok (.iinc 10 1, 3) := by decide +kernel
theorem d_Mo_drawn_133 : decode b_Mo_drawn 133 = .ok (.goto (-26), 3) := by decide +kernel
theorem d_Mo_drawn_136 : decode b_Mo_drawn 136 = .ok (.aload_n 0, 1) := by decide +kernel
theorem d_Mo_drawn_137 : decode b_Mo_drawn 137 = .ok (.iconst 1, 1) := by decide +kernel
theorem d_Mo_drawn_138 : decode b_Mo_drawn 138 = .ok (.putfield 72, 3) := by decide +kernel
theorem d_Mo_drawn_141 : decode b_Mo_drawn 141 = .ok (.lload 8, 2) := by decide +kernel
theorem d_Mo_drawn_143 : decode b_Mo_drawn 143 = .ok (.lreturn, 1) := by decide +kernel
theorem d_Mo_drawnAt_0 : decode b_Mo_drawnAt 0 = .ok (.aload_n 0, 1) := by decide +kernel
theorem d_Mo_drawnAt_1 : decode b_Mo_drawnAt 1 = .ok (.getfield 72, 3) := by decide +kernel
theorem d_Mo_drawnAt_4 : decode b_Mo_drawnAt 4 = .ok (.ifCond .ne 8, 3) := by decide +kernel
theorem d_Mo_drawnAt_7 : decode b_Mo_drawnAt 7 = .ok (.bipush (-3), 2) := by decide +kernel
theorem d_Mo_drawnAt_9 : decode b_Mo_drawnAt 9 = .ok (.goto 21, 3) := by decide +kernel
theorem d_Mo_drawnAt_12 : decode b_Mo_drawnAt 12 = .ok (.aload_n 0, 1) := by decide +kernel
theorem d_Mo_drawnAt_13 : decode b_Mo_drawnAt 13 = .ok (.iload_n 1, 1) := by decide +kernel
theorem d_Mo_drawnAt_14 : decode b_Mo_drawnAt 14 = .ok (.invokevirtual 98, 3) := by decide +kernel
theorem d_Mo_drawnAt_17 : decode b_Mo_drawnAt 17 = .ok (.ifCond .eq 12, 3) := by decide +kernel
theorem d_Mo_drawnAt_20 : decode b_Mo_drawnAt 20 = .ok (.aload_n 0, 1) := by decide +kernel
theorem d_Mo_drawnAt_21 : decode b_Mo_drawnAt 21 = .ok (.getfield 47, 3) := by decide +kernel
theorem d_Mo_drawnAt_24 : decode b_Mo_drawnAt 24 = .ok (.iload_n 1, 1) := by decide +kernel
theorem d_Mo_drawnAt_25 : decode b_Mo_drawnAt 25 = .ok (.iaload, 1) := by decide +kernel
theorem d_Mo_drawnAt_26 : decode b_Mo_drawnAt 26 = .ok (.goto 4, 3) := by decide +kernel
theorem d_Mo_drawnAt_29 : decode b_Mo_drawnAt 29 = .ok (.iconst (-1), 1) := by decide +kernel
theorem d_Mo_drawnAt_30 : decode b_Mo_drawnAt 30 = .ok (.ireturn, 1) := by decide +kernel
theorem d_Mo_trees_0 : decode b_Mo_trees 0 = .ok (.aload_n 0, 1) := by decide +kernel
theorem d_Mo_trees_1 : decode b_Mo_trees 1 = .ok (.iload_n 1, 1) := by decide +kernel
theorem d_Mo_trees_2 : decode b_Mo_trees 2 = .ok (.invokevirtual 95, 3) := by decide +kernel
theorem d_Mo_trees_5 : decode b_Mo_trees 5 = .ok (.ifCond .ne 7, 3) := by decide +kernel
theorem d_Mo_trees_8 : decode b_Mo_trees 8 = .ok (.ldc2_w 145, 3) := by decide +kernel
theorem d_Mo_trees_11 : decode b_Mo_trees 11 = .ok (.lreturn, 1) := by decide +kernel
theorem d_Mo_trees_12 : decode b_Mo_trees 12 = .ok (.aload_n 0, 1) := by decide +kernel
theorem d_Mo_trees_13 : decode b_Mo_trees 13 = .ok (.getfield 82, 3) := by decide +kernel
theorem d_Mo_trees_16 : decode b_Mo_trees 16 = .ok (.ifCond .ne 5, 3) := by decide +kernel
theorem d_Mo_trees_19 : decode b_Mo_trees 19 = .ok (.lconst 0, 1) := by decide +kernel
theorem d_Mo_trees_20 : decode b_Mo_trees 20 = .ok (.lreturn, 1) := by decide +kernel
theorem d_Mo_trees_21 : decode b_Mo_trees 21 = .ok (.aload_n 0, 1) := by decide +kernel
theorem d_Mo_trees_22 : decode b_Mo_trees 22 = .ok (.iconst 0, 1) := by decide +kernel
theorem d_Mo_trees_23 : decode b_Mo_trees 23 = .ok (.iconst 0, 1) := by decide +kernel
theorem d_Mo_trees_24 : decode b_Mo_trees 24 = .ok (.iconst 4, 1) := by decide +kernel
theorem d_Mo_trees_25 : decode b_Mo_trees 25 = .ok (.invokevirtual 171, 3) := by decide +kernel
theorem d_Mo_trees_28 : decode b_Mo_trees 28 = .ok (.aload_n 0, 1) := by decide +kernel
theorem d_Mo_trees_29 : decode b_Mo_trees 29 = .ok (.getfield 50, 3) := by decide +kernel
theorem d_Mo_trees_32 : decode b_Mo_trees 32 = .ok (.aload_n 0, 1) := by decide +kernel
theorem d_Mo_trees_33 : decode b_Mo_trees 33 = .ok (.iload_n 1, 1) := by decide +kernel
theorem d_Mo_trees_34 : decode b_Mo_trees 34 = .ok (.invokevirtual 174, 3) := by decide +kernel
theorem d_Mo_trees_37 : decode b_Mo_trees 37 = .ok (.laload, 1) := by decide +kernel
theorem d_Mo_trees_38 : decode b_Mo_trees 38 = .ok (.lreturn, 1) := by decide +kernel
theorem d_Mo_findTrees_0 : decode b_Mo_findTrees 0 = .ok (.iconst 1, 1) := by decide +kernel
theorem d_Mo_findTrees_1 : decode b_Mo_findTrees 1 = .ok (.istore 4, 2) := by decide +kernel
theorem d_Mo_findTrees_3 : decode b_Mo_findTrees 3 = .ok (.iload 4, 2) := by decide +kernel
theorem d_Mo_findTrees_5 : decode b_Mo_findTrees 5 = .ok (.aload_n 0, 1) := by decide +kernel
theorem d_Mo_findTrees_6 : decode b_Mo_findTrees 6 = .ok (.getfield 82, 3) := by decide +kernel
theorem d_Mo_findTrees_9 : decode b_Mo_findTrees 9 = .ok (.if_icmp .gt 105, 3) := by decide +kernel
theorem d_Mo_findTrees_12 : decode b_Mo_findTrees 12 = .ok (.iconst 0, 1) := by decide +kernel
theorem d_Mo_findTrees_13 : decode b_Mo_findTrees 13 = .ok (.istore 5, 2) := by decide +kernel
theorem d_Mo_findTrees_15 : decode b_Mo_findTrees 15 = .ok (.iload 5, 2) := by decide +kernel
theorem d_Mo_findTrees_17 : decode b_Mo_findTrees 17 = .ok (.iload 4, 2) := by decide +kernel
theorem d_Mo_findTrees_19 : decode b_Mo_findTrees 19 = .ok (.iadd, 1) := by decide +kernel
theorem d_Mo_findTrees_20 : decode b_Mo_findTrees 20 = .ok (.aload_n 0, 1) := by decide +kernel
theorem d_Mo_findTrees_21 : decode b_Mo_findTrees 21 = .ok (.getfield 82, 3) := by decide +kernel
theorem d_Mo_findTrees_24 : decode b_Mo_findTrees 24 = .ok (.if_icmp .gt 84, 3) := by decide +kernel
theorem d_Mo_findTrees_27 : decode b_Mo_findTrees 27 = .ok (.iload 5, 2) := by decide +kernel
theorem d_Mo_findTrees_29 : decode b_Mo_findTrees 29 = .ok (.iload 4, 2) := by decide +kernel
theorem d_Mo_findTrees_31 : decode b_Mo_findTrees 31 = .ok (.iadd, 1) := by decide +kernel
theorem d_Mo_findTrees_32 : decode b_Mo_findTrees 32 = .ok (.iconst 1, 1) := by decide +kernel
theorem d_Mo_findTrees_33 : decode b_Mo_findTrees 33 = .ok (.isub, 1) := by decide +kernel
theorem d_Mo_findTrees_34 : decode b_Mo_findTrees 34 = .ok (.istore 6, 2) := by decide +kernel
theorem d_Mo_findTrees_36 : decode b_Mo_findTrees 36 = .ok (.iconst 0, 1) := by decide +kernel
theorem d_Mo_findTrees_37 : decode b_Mo_findTrees 37 = .ok (.istore 7, 2) := by decide +kernel
theorem d_Mo_findTrees_39 : decode b_Mo_findTrees 39 = .ok (.iload 7, 2) := by decide +kernel
theorem d_Mo_findTrees_41 : decode b_Mo_findTrees 41 = .ok (.aload_n 0, 1) := by decide +kernel
theorem d_Mo_findTrees_42 : decode b_Mo_findTrees 42 = .ok (.getfield 79, 3) := by decide +kernel
theorem d_Mo_findTrees_45 : decode b_Mo_findTrees 45 = .ok (.if_icmp .ge 57, 3) := by decide +kernel
theorem d_Mo_findTrees_48 : decode b_Mo_findTrees 48 = .ok (.aload_n 0, 1) := by decide +kernel
theorem d_Mo_findTrees_49 : decode b_Mo_findTrees 49 = .ok (.iload 5, 2) := by decide +kernel
theorem d_Mo_findTrees_51 : decode b_Mo_findTrees 51 = .ok (.iload 6, 2) := by decide +kernel
theorem d_Mo_findTrees_53 : decode b_Mo_findTrees 53 = .ok (.iload 7, 2) := by decide +kernel
theorem d_Mo_findTrees_55 : decode b_Mo_findTrees 55 = .ok (.invokevirtual 159, 3) := by decide +kernel
theorem d_Mo_findTrees_58 : decode b_Mo_findTrees 58 = .ok (.iload 5, 2) := by decide +kernel
theorem d_Mo_findTrees_60 : decode b_Mo_findTrees 60 = .ok (.iload_n 1, 1) := by decide +kernel
theorem d_Mo_findTrees_61 : decode b_Mo_findTrees 61 = .ok (.if_icmp .ne 35, 3) := by decide +kernel
theorem d_Mo_findTrees_64 : decode b_Mo_findTrees 64 = .ok (.iload 6, 2) := by decide +kernel
theorem d_Mo_findTrees_66 : decode b_Mo_findTrees 66 = .ok (.iload_n 2, 1) := by decide +kernel
theorem d_Mo_findTrees_67 : decode b_Mo_findTrees 67 = .ok (.if_icmp .ne 29, 3) := by decide +kernel
theorem d_Mo_findTrees_70 : decode b_Mo_findTrees 70 = .ok (.iload_n 3, 1) := by decide +kernel
theorem d_Mo_findTrees_71 : decode b_Mo_findTrees 71 = .ok (.iconst 4, 1) := by decide +kernel
theorem d_Mo_findTrees_72 : decode b_Mo_findTrees 72 = .ok (.if_icmp .eq 24, 3) := by decide +kernel
theorem d_Mo_findTrees_75 : decode b_Mo_findTrees 75 = .ok (.iload 7, 2) := by decide +kernel
theorem d_Mo_findTrees_77 : decode b_Mo_findTrees 77 = .ok (.iload_n 3, 1) := by decide +kernel
theorem d_Mo_findTrees_78 : decode b_Mo_findTrees 78 = .ok (.if_icmp .eq 18, 3) := by decide +kernel
theorem d_Mo_findTrees_81 : decode b_Mo_findTrees 81 = .ok (.aload_n 0, 1) := by decide +kernel
theorem d_Mo_findTrees_82 : decode b_Mo_findTrees 82 = .ok (.getfield 50, 3) := by decide +kernel
theorem d_Mo_findTrees_85 : decode b_Mo_findTrees 85 = .ok (.iload 5, 2) := by decide +kernel
theorem d_Mo_findTrees_87 : decode b_Mo_findTrees 87 = .ok (.iload 6, 2) := by decide +kernel
theorem d_Mo_findTrees_89 : decode b_Mo_findTrees 89 = .ok (.iload 7, 2) := by decide +kernel
theorem d_Mo_findTrees_91 : decode b_Mo_findTrees 91 = .ok (.invokestatic 163, 3) := by decide +kernel
theorem d_Mo_findTrees_94 : decode b_Mo_findTrees 94 = .ok (.lconst 0, 1) := by decide +kernel
theorem d_Mo_findTrees_95 : decode b_Mo_findTrees 95 = .ok (.lastore, 1) := by decide +kernel
theorem d_Mo_findTrees_96 : decode b_Mo_findTrees 96 = .ok (.iinc 7 1, 3) := by decide +kernel
theorem d_Mo_findTrees_99 : decode b_Mo_findTrees 99 = .ok (.goto (-60), 3) := by decide +kernel
theorem d_Mo_findTrees_102 : decode b_Mo_findTrees 102 = .ok (.iinc 5 1, 3) := by decide +kernel
theorem d_Mo_findTrees_105 : decode b_Mo_findTrees 105 = .ok (.goto (-90), 3) := by decide +kernel
theorem d_Mo_findTrees_108 : decode b_Mo_findTrees 108 = .ok (.iinc 4 1, 3) := by decide +kernel
theorem d_Mo_findTrees_111 : decode b_Mo_findTrees 111 = .ok (.goto (-108), 3) := by decide +kernel
theorem d_Mo_findTrees_114 : decode b_Mo_findTrees 114 = .ok (.return_, 1) := by decide +kernel
theorem d_Mo_findSpan_0 : decode b_Mo_findSpan 0 = .ok (.iload_n 1, 1) := by decide +kernel
theorem d_Mo_findSpan_1 : decode b_Mo_findSpan 1 = .ok (.iload_n 2, 1) := by decide +kernel
theorem d_Mo_findSpan_2 : decode b_Mo_findSpan 2 = .ok (.iload_n 3, 1) := by decide +kernel
theorem d_Mo_findSpan_3 : decode b_Mo_findSpan 3 = .ok (.invokestatic 163, 3) := by decide +kernel
theorem d_Mo_findSpan_6 : decode b_Mo_findSpan 6 = .ok (.istore 4, 2) := by decide +kernel
theorem d_Mo_findSpan_8 : decode b_Mo_findSpan 8 = .ok (.iload_n 1, 1) := by decide +kernel
theorem d_Mo_findSpan_9 : decode b_Mo_findSpan 9 = .ok (.iload_n 2, 1) := by decide +kernel
theorem d_Mo_findSpan_10 : decode b_Mo_findSpan 10 = .ok (.if_icmp .ne 55, 3) := by decide +kernel
theorem d_Mo_findSpan_13 : decode b_Mo_findSpan 13 = .ok (.aload_n 0, 1) := by decide +kernel
theorem d_Mo_findSpan_14 : decode b_Mo_findSpan 14 = .ok (.getfield 50, 3) := by decide +kernel
theorem d_Mo_findSpan_17 : decode b_Mo_findSpan 17 = .ok (.iload 4, 2) := by decide +kernel
theorem d_Mo_findSpan_19 : decode b_Mo_findSpan 19 = .ok (.aload_n 0, 1) := by decide +kernel
theorem d_Mo_findSpan_20 : decode b_Mo_findSpan 20 = .ok (.iload_n 3, 1) := by decide +kernel
theorem d_Mo_findSpan_21 : decode b_Mo_findSpan 21 = .ok (.iload_n 1, 1) := by decide +kernel
theorem d_Mo_findSpan_22 : decode b_Mo_findSpan 22 = .ok (.invokevirtual 167, 3) := by decide +kernel
theorem d_Mo_findSpan_25 : decode b_Mo_findSpan 25 = .ok (.lastore, 1) := by decide +kernel
theorem d_Mo_findSpan_26 : decode b_Mo_findSpan 26 = .ok (.aload_n 0, 1) := by decide +kernel
theorem d_Mo_findSpan_27 : decode b_Mo_findSpan 27 = .ok (.getfield 53, 3) := by decide +kernel
theorem d_Mo_findSpan_30 : decode b_Mo_findSpan 30 = .ok (.iload 4, 2) := by decide +kernel
theorem d_Mo_findSpan_32 : decode b_Mo_findSpan 32 = .ok (.aload_n 0, 1) := by decide +kernel
theorem d_Mo_findSpan_33 : decode b_Mo_findSpan 33 = .ok (.getfield 50, 3) := by decide +kernel
theorem d_Mo_findSpan_36 : decode b_Mo_findSpan 36 = .ok (.iload 4, 2) := by decide +kernel
theorem d_Mo_findSpan_38 : decode b_Mo_findSpan 38 = .ok (.laload, 1) := by decide +kernel
theorem d_Mo_findSpan_39 : decode b_Mo_findSpan 39 = .ok (.lconst 0, 1) := by decide +kernel
theorem d_Mo_findSpan_40 : decode b_Mo_findSpan 40 = .ok (.lcmp, 1) := by decide +kernel
theorem d_Mo_findSpan_41 : decode b_Mo_findSpan 41 = .ok (.ifCond .le 7, 3) := by decide +kernel
theorem d_Mo_findSpan_44 : decode b_Mo_findSpan 44 = .ok (.lconst 1, 1) := by decide +kernel
theorem d_Mo_findSpan_45 : decode b_Mo_findSpan 45 = .ok (.goto 4, 3) := by decide +kernel
theorem d_Mo_findSpan_48 : decode b_Mo_findSpan 48 = .ok (.lconst 0, 1) := by decide +kernel
theorem d_Mo_findSpan_49 : decode b_Mo_findSpan 49 = .ok (.lastore, 1) := by decide +kernel
theorem d_Mo_findSpan_50 : decode b_Mo_findSpan 50 = .ok (.aload_n 0, 1) := by decide +kernel
theorem d_Mo_findSpan_51 : decode b_Mo_findSpan 51 = .ok (.getfield 56, 3) := by decide +kernel
theorem d_Mo_findSpan_54 : decode b_Mo_findSpan 54 = .ok (.iload 4, 2) := by decide +kernel
theorem d_Mo_findSpan_56 : decode b_Mo_findSpan 56 = .ok (.aload_n 0, 1) := by decide +kernel
theorem d_Mo_findSpan_57 : decode b_Mo_findSpan 57 = .ok (.getfield 50, 3) := by decide +kernel
theorem d_Mo_findSpan_60 : decode b_Mo_findSpan 60 = .ok (.iload 4, 2) := by decide +kernel
theorem d_Mo_findSpan_62 : decode b_Mo_findSpan 62 = .ok (.laload, 1) := by decide +kernel
theorem d_Mo_findSpan_63 : decode b_Mo_findSpan 63 = .ok (.lastore, 1) := by decide +kernel
theorem d_Mo_findSpan_64 : decode b_Mo_findSpan 64 = .ok (.return_, 1) := by decide +kernel
theorem d_Mo_findSpan_65 : decode b_Mo_findSpan 65 = .ok (.aload_n 0, 1) := by decide +kernel
theorem d_Mo_findSpan_66 : decode b_Mo_findSpan 66 = .ok (.getfield 50, 3) := by decide +kernel
theorem d_Mo_findSpan_69 : decode b_Mo_findSpan 69 = .ok (.iload 4, 2) := by decide +kernel
theorem d_Mo_findSpan_71 : decode b_Mo_findSpan 71 = .ok (.lconst 0, 1) := by decide +kernel
theorem d_Mo_findSpan_72 : decode b_Mo_findSpan 72 = .ok (.lastore, 1) := by decide +kernel
theorem d_Mo_findSpan_73 : decode b_Mo_findSpan 73 = .ok (.aload_n 0, 1) := by decide +kernel
theorem d_Mo_findSpan_74 : decode b_Mo_findSpan 74 = .ok (.getfield 53, 3) := by decide +kernel
theorem d_Mo_findSpan_77 : decode b_Mo_findSpan 77 = .ok (.iload 4, 2) := by decide +kernel
theorem d_Mo_findSpan_79 : decode b_Mo_findSpan 79 = .ok (.lconst 0, 1) := by decide +kernel
theorem d_Mo_findSpan_80 : decode b_Mo_findSpan 80 = .ok (.lastore, 1) := by decide +kernel
theorem d_Mo_findSpan_81 : decode b_Mo_findSpan 81 = .ok (.aload_n 0, 1) := by decide +kernel
theorem d_Mo_findSpan_82 : decode b_Mo_findSpan 82 = .ok (.getfield 56, 3) := by decide +kernel
theorem d_Mo_findSpan_85 : decode b_Mo_findSpan 85 = .ok (.iload 4, 2) := by decide +kernel
theorem d_Mo_findSpan_87 : decode b_Mo_findSpan 87 = .ok (.lconst 0, 1) := by decide +kernel
theorem d_Mo_findSpan_88 : decode b_Mo_findSpan 88 = .ok (.lastore, 1) := by decide +kernel
theorem d_Mo_findSpan_89 : decode b_Mo_findSpan 89 = .ok (.iload_n 1, 1) := by decide +kernel
theorem d_Mo_findSpan_90 : decode b_Mo_findSpan 90 = .ok (.iconst 1, 1) := by decide +kernel
theorem d_Mo_findSpan_91 : decode b_Mo_findSpan 91 = .ok (.iadd, 1) := by decide +kernel
theorem d_Mo_findSpan_92 : decode b_Mo_findSpan 92 = .ok (.istore 5, 2) := by decide +kernel
theorem d_Mo_findSpan_94 : decode b_Mo_findSpan 94 = .ok (.iload 5, 2) := by decide +kernel
theorem d_Mo_findSpan_96 : decode b_Mo_findSpan 96 = .ok (.iload_n 2, 1) := by decide +kernel
theorem d_Mo_findSpan_97 : decode b_Mo_findSpan 97 = .ok (.if_icmp .gt 199, 3) := by decide +kernel
theorem d_Mo_findSpan_100 : decode b_Mo_findSpan 100 = .ok (.iconst 0, 1) := by decide +kernel
theorem d_Mo_findSpan_101 : decode b_Mo_findSpan 101 = .ok (.istore 6, 2) := by decide +kernel
theorem d_Mo_findSpan_103 : decode b_Mo_findSpan 103 = .ok (.iload 6, 2) := by decide +kernel
theorem d_Mo_findSpan_105 : decode b_Mo_findSpan 105 = .ok (.aload_n 0, 1) := by decide +kernel
theorem d_Mo_findSpan_106 : decode b_Mo_findSpan 106 = .ok (.getfield 79, 3) := by decide +kernel
theorem d_Mo_findSpan_109 : decode b_Mo_findSpan 109 = .ok (.if_icmp .ge 181, 3) := by decide +kernel
theorem d_Mo_findSpan_112 : decode b_Mo_findSpan 112 = .ok (.iconst 0, 1) := by decide +kernel
theorem d_Mo_findSpan_113 : decode b_Mo_findSpan 113 = .ok (.istore 7, 2) := by decide +kernel
theorem d_Mo_findSpan_115 : decode b_Mo_findSpan 115 = .ok (.iload 7, 2) := by decide +kernel
theorem d_Mo_findSpan_117 : decode b_Mo_findSpan 117 = .ok (.aload_n 0, 1) := by decide +kernel
theorem d_Mo_findSpan_118 : decode b_Mo_findSpan 118 = .ok (.getfield 79, 3) := by decide +kernel
theorem d_Mo_findSpan_121 : decode b_Mo_findSpan 121 = .ok (.if_icmp .ge 163, 3) := by decide +kernel
theorem d_Mo_findSpan_124 : decode b_Mo_findSpan 124 = .ok (.aload_n 0, 1) := by decide +kernel
theorem d_Mo_findSpan_125 : decode b_Mo_findSpan 125 = .ok (.getfield 16, 3) := by decide +kernel
theorem d_Mo_findSpan_128 : decode b_Mo_findSpan 128 = .ok (.bipush 16, 2) := by decide +kernel
theorem d_Mo_findSpan_130 : decode b_Mo_findSpan 130 = .ok (.iload_n 3, 1) := by decide +kernel
theorem d_Mo_findSpan_131 : decode b_Mo_findSpan 131 = .ok (.imul, 1) := by decide +kernel
theorem d_Mo_findSpan_132 : decode b_Mo_findSpan 132 = .ok (.iconst 4, 1) := by decide +kernel
theorem d_Mo_findSpan_133 : decode b_Mo_findSpan 133 = .ok (.iload 6, 2) := by decide +kernel
theorem d_Mo_findSpan_135 : decode b_Mo_findSpan 135 = .ok (.imul, 1) := by decide +kernel
theorem d_Mo_findSpan_136 : decode b_Mo_findSpan 136 = .ok (.iadd, 1) := by decide +kernel
theorem d_Mo_findSpan_137 : decode b_Mo_findSpan 137 = .ok (.iload 7, 2) := by decide +kernel
theorem d_Mo_findSpan_139 : decode b_Mo_findSpan 139 = .ok (.iadd, 1) := by decide +kernel
theorem d_Mo_findSpan_140 : decode b_Mo_findSpan 140 = .ok (.iaload, 1) := by decide +kernel
theorem d_Mo_findSpan_141 : decode b_Mo_findSpan 141 = .ok (.i2l, 1) := by decide +kernel
theorem d_Mo_findSpan_142 : decode b_Mo_findSpan 142 = .ok (.lstore 8, 2) := by decide +kernel
theorem d_Mo_findSpan_144 : decode b_Mo_findSpan 144 = .ok (.lload 8, 2) := by decide +kernel
theorem d_Mo_findSpan_146 : decode b_Mo_findSpan 146 = .ok (.lconst 0, 1) := by decide +kernel
theorem d_Mo_findSpan_147 : decode b_Mo_findSpan 147 = .ok (.lcmp, 1) := by decide +kernel
theorem d_Mo_findSpan_148 : decode b_Mo_findSpan 148 = .ok (.ifCond .le 130, 3) := by decide +kernel
theorem d_Mo_findSpan_151 : decode b_Mo_findSpan 151 = .ok (.iload_n 1, 1) := by decide +kernel
theorem d_Mo_findSpan_152 : decode b_Mo_findSpan 152 = .ok (.iload 5, 2) := by decide +kernel
theorem d_Mo_findSpan_154 : decode b_Mo_findSpan 154 = .ok (.iconst 1, 1) := by decide +kernel
theorem d_Mo_findSpan_155 : decode b_Mo_findSpan 155 = .ok (.isub, 1) := by decide +kernel
theorem d_Mo_findSpan_156 : decode b_Mo_findSpan 156 = .ok (.iload 6, 2) := by decide +kernel
theorem d_Mo_findSpan_158 : decode b_Mo_findSpan 158 = .ok (.invokestatic 163, 3) := by decide +kernel
theorem d_Mo_findSpan_161 : decode b_Mo_findSpan 161 = .ok (.istore 10, 2) := by decide +kernel
theorem d_Mo_findSpan_163 : decode b_Mo_findSpan 163 = .ok (.iload 5, 2) := by decide +kernel
theorem d_Mo_findSpan_165 : decode b_Mo_findSpan 165 = .ok (.iload_n 2, 1) := by decide +kernel
theorem d_Mo_findSpan_166 : decode b_Mo_findSpan 166 = .ok (.iload 7, 2) := by decide +kernel
theorem d_Mo_findSpan_168 : decode b_Mo_findSpan 168 = .ok (.invokestatic 163, 3) := by decide +kernel
theorem d_Mo_findSpan_171 : decode b_Mo_findSpan 171 = .ok (.istore 11, 2) := by decide +kernel
theorem d_Mo_findSpan_173 : decode b_Mo_findSpan 173 = .ok (.aload_n 0, 1) := by decide +kernel
theorem d_Mo_findSpan_174 : decode b_Mo_findSpan 174 = .ok (.getfield 50, 3) := by decide +kernel
theorem d_Mo_findSpan_177 : decode b_Mo_findSpan 177 = .ok (.iload 4, 2) := by decide +kernel
theorem d_Mo_findSpan_179 : decode b_Mo_findSpan 179 = .ok (.dup2, 1) := by decide +kernel
theorem d_Mo_findSpan_180 : decode b_Mo_findSpan 180 = .ok (.laload, 1) := by decide +kernel
theorem d_Mo_findSpan_181 : decode b_Mo_findSpan 181 = .ok (.lload 8, 2) := by decide +kernel
theorem d_Mo_findSpan_183 : decode b_Mo_findSpan 183 = .ok (.aload_n 0, 1) := by decide +kernel
theorem d_Mo_findSpan_184 : decode b_Mo_findSpan 184 = .ok (.getfield 50, 3) := by decide +kernel
theorem d_Mo_findSpan_187 : decode b_Mo_findSpan 187 = .ok (.iload 10, 2) := by decide +kernel
theorem d_Mo_findSpan_189 : decode b_Mo_findSpan 189 = .ok (.laload, 1) := by decide +kernel
theorem d_Mo_findSpan_190 : decode b_Mo_findSpan 190 = .ok (.lmul, 1) := by decide +kernel
theorem d_Mo_findSpan_191 : decode b_Mo_findSpan 191 = .ok (.aload_n 0, 1) := by decide +kernel
theorem d_Mo_findSpan_192 : decode b_Mo_findSpan 192 = .ok (.getfield 50, 3) := by decide +kernel
theorem d_Mo_findSpan_195 : decode b_Mo_findSpan 195 = .ok (.iload 11, 2) := by decide +kernel
theorem d_Mo_findSpan_197 : decode b_Mo_findSpan 197 = .ok (.laload, 1) := by decide +kernel
theorem d_Mo_findSpan_198 : decode b_Mo_findSpan 198 = .ok (.lmul, 1) := by decide +kernel
theorem d_Mo_findSpan_199 : decode b_Mo_findSpan 199 = .ok (.ladd, 1) := by decide +kernel
theorem d_Mo_findSpan_200 : decode b_Mo_findSpan 200 = .ok (.lastore, 1) := by decide +kernel
theorem d_Mo_findSpan_201 : decode b_Mo_findSpan 201 = .ok (.aload_n 0, 1) := by decide +kernel
theorem d_Mo_findSpan_202 : decode b_Mo_findSpan 202 = .ok (.getfield 53, 3) := by decide +kernel
theorem d_Mo_findSpan_205 : decode b_Mo_findSpan 205 = .ok (.iload 4, 2) := by decide +kernel
theorem d_Mo_findSpan_207 : decode b_Mo_findSpan 207 = .ok (.dup2, 1) := by decide +kernel
theorem d_Mo_findSpan_208 : decode b_Mo_findSpan 208 = .ok (.laload, 1) := by decide +kernel
theorem d_Mo_findSpan_209 : decode b_Mo_findSpan 209 = .ok (.aload_n 0, 1) := by decide +kernel
theorem d_Mo_findSpan_210 : decode b_Mo_findSpan 210 = .ok (.getfield 53, 3) := by decide +kernel
theorem d_Mo_findSpan_213 : decode b_Mo_findSpan 213 = .ok (.iload 10, 2) := by decide +kernel
theorem d_Mo_findSpan_215 : decode b_Mo_findSpan 215 = .ok (.laload, 1) := by decide +kernel
theorem d_Mo_findSpan_216 : decode b_Mo_findSpan 216 = .ok (.aload_n 0, 1) := by decide +kernel
theorem d_Mo_findSpan_217 : decode b_Mo_findSpan 217 = .ok (.getfield 53, 3) := by decide +kernel
theorem d_Mo_findSpan_220 : decode b_Mo_findSpan 220 = .ok (.iload 11, 2) := by decide +kernel
theorem d_Mo_findSpan_222 : decode b_Mo_findSpan 222 = .ok (.laload, 1) := by decide +kernel
theorem d_Mo_findSpan_223 : decode b_Mo_findSpan 223 = .ok (.lmul, 1) := by decide +kernel
theorem d_Mo_findSpan_224 : decode b_Mo_findSpan 224 = .ok (.ladd, 1) := by decide +kernel
theorem d_Mo_findSpan_225 : decode b_Mo_findSpan 225 = .ok (.lastore, 1) := by decide +kernel
theorem d_Mo_findSpan_226 : decode b_Mo_findSpan 226 = .ok (.lload 8, 2) := by decide +kernel
theorem d_Mo_findSpan_228 : decode b_Mo_findSpan 228 = .ok (.aload_n 0, 1) := by decide +kernel
theorem d_Mo_findSpan_229 : decode b_Mo_findSpan 229 = .ok (.getfield 56, 3) := by decide +kernel
theorem d_Mo_findSpan_232 : decode b_Mo_findSpan 232 = .ok (.iload 10, 2) := by decide +kernel
theorem d_Mo_findSpan_234 : decode b_Mo_findSpan 234 = .ok (.laload, 1) := by decide +kernel
theorem d_Mo_findSpan_235 : decode b_Mo_findSpan 235 = .ok (.lmul, 1) := by decide +kernel
theorem d_Mo_findSpan_236 : decode b_Mo_findSpan 236 = .ok (.aload_n 0, 1) := by decide +kernel
theorem d_Mo_findSpan_237 : decode b_Mo_findSpan 237 = .ok (.getfield 56, 3) := by decide +kernel
theorem d_Mo_findSpan_240 : decode b_Mo_findSpan 240 = .ok (.iload 11, 2) := by decide +kernel
theorem d_Mo_findSpan_242 : decode b_Mo_findSpan 242 = .ok (.laload, 1) := by decide +kernel
theorem d_Mo_findSpan_243 : decode b_Mo_findSpan 243 = .ok (.lmul, 1) := by decide +kernel
theorem d_Mo_findSpan_244 : decode b_Mo_findSpan 244 = .ok (.lstore 12, 2) := by decide +kernel
theorem d_Mo_findSpan_246 : decode b_Mo_findSpan 246 = .ok (.aload_n 0, 1) := by decide +kernel
theorem d_Mo_findSpan_247 : decode b_Mo_findSpan 247 = .ok (.getfield 56, 3) := by decide +kernel
theorem d_Mo_findSpan_250 : decode b_Mo_findSpan 250 = .ok (.iload 4, 2) := by decide +kernel
theorem d_Mo_findSpan_252 : decode b_Mo_findSpan 252 = .ok (.lload 12, 2) := by decide +kernel
theorem d_Mo_findSpan_254 : decode b_Mo_findSpan 254 = .ok (.aload_n 0, 1) := by decide +kernel
theorem d_Mo_findSpan_255 : decode b_Mo_findSpan 255 = .ok (.getfield 56, 3) := by decide +kernel
theorem d_Mo_findSpan_258 : decode b_Mo_findSpan 258 = .ok (.iload 4, 2) := by decide +kernel
theorem d_Mo_findSpan_260 : decode b_Mo_findSpan 260 = .ok (.laload, 1) := by decide +kernel
theorem d_Mo_findSpan_261 : decode b_Mo_findSpan 261 = .ok (.lcmp, 1) := by decide +kernel
theorem d_Mo_findSpan_262 : decode b_Mo_findSpan 262 = .ok (.ifCond .le 8, 3) := by decide +kernel
theorem d_Mo_findSpan_265 : decode b_Mo_findSpan 265 = .ok (.lload 12, 2) := by decide +kernel
theorem d_Mo_findSpan_267 : decode b_Mo_findSpan 267 = .ok (.goto 10, 3) := by decide +kernel
theorem d_Mo_findSpan_270 : decode b_Mo_findSpan 270 = .ok (.aload_n 0, 1) := by decide +kernel
theorem d_Mo_findSpan_271 : decode b_Mo_findSpan 271 = .ok (.getfield 56, 3) := by decide +kernel
theorem d_Mo_findSpan_274 : decode b_Mo_findSpan 274 = .ok (.iload 4, 2) := by decide +kernel
theorem d_Mo_findSpan_276 : decode b_Mo_findSpan 276 = .ok (.laload, 1) := by decide +kernel
theorem d_Mo_findSpan_277 : decode b_Mo_findSpan 277 = .ok (.lastore, 1) := by decide +kernel
theorem d_Mo_findSpan_278 : decode b_Mo_findSpan 278 = .ok (.iinc 7 1, 3) := by decide +kernel
theorem d_Mo_findSpan_281 : decode b_Mo_findSpan 281 = .ok (.goto (-166), 3) := by decide +kernel
theorem d_Mo_findSpan_284 : decode b_Mo_findSpan 284 = .ok (.iinc 6 1, 3) := by decide +kernel
theorem d_Mo_findSpan_287 : decode b_Mo_findSpan 287 = .ok (.goto (-184), 3) := by decide +kernel
theorem d_Mo_findSpan_290 : decode b_Mo_findSpan 290 = .ok (.iinc 5 1, 3) := by decide +kernel
theorem d_Mo_findSpan_293 : decode b_Mo_findSpan 293 = .ok (.goto (-199), 3) := by decide +kernel
theorem d_Mo_findSpan_296 : decode b_Mo_findSpan 296 = .ok (.return_, 1) := by decide +kernel
theorem d_Mo_at_0 : decode b_Mo_at 0 = .ok (.bipush 24, 2) := by decide +kernel
theorem d_Mo_at_2 : decode b_Mo_at 2 = .ok (.iload_n 0, 1) := by decide +kernel
theorem d_Mo_at_3 : decode b_Mo_at 3 = .ok (.imul, 1) := by decide +kernel
theorem d_Mo_at_4 : decode b_Mo_at 4 = .ok (.iconst 4, 1) := by decide +kernel
theorem d_Mo_at_5 : decode b_Mo_at 5 = .ok (.iload_n 1, 1) := by decide +kernel
theorem d_Mo_at_6 : decode b_Mo_at 6 = .ok (.imul, 1) := by decide +kernel
theorem d_Mo_at_7 : decode b_Mo_at 7 = .ok (.iadd, 1) := by decide +kernel
theorem d_Mo_at_8 : decode b_Mo_at 8 = .ok (.iload_n 2, 1) := by decide +kernel
theorem d_Mo_at_9 : decode b_Mo_at 9 = .ok (.iadd, 1) := by decide +kernel
theorem d_Mo_at_10 : decode b_Mo_at 10 = .ok (.ireturn, 1) := by decide +kernel
theorem d_Mo_leafOf_0 : decode b_Mo_leafOf 0 = .ok (.aload_n 0, 1) := by decide +kernel
theorem d_Mo_leafOf_1 : decode b_Mo_leafOf 1 = .ok (.getfield 22, 3) := by decide +kernel
theorem d_Mo_leafOf_4 : decode b_Mo_leafOf 4 = .ok (.iload_n 2, 1) := by decide +kernel
theorem d_Mo_leafOf_5 : decode b_Mo_leafOf 5 = .ok (.iaload, 1) := by decide +kernel
theorem d_Mo_leafOf_6 : decode b_Mo_leafOf 6 = .ok (.istore_n 3, 1) := by decide +kernel
theorem d_Mo_leafOf_7 : decode b_Mo_leafOf 7 = .ok (.iconst 4, 1) := by decide +kernel
theorem d_Mo_leafOf_8 : decode b_Mo_leafOf 8 = .ok (.iload_n 1, 1) := by decide +kernel
theorem d_Mo_leafOf_9 : decode b_Mo_leafOf 9 = .ok (.imul, 1) := by decide +kernel
theorem d_Mo_leafOf_10 : decode b_Mo_leafOf 10 = .ok (.istore 4, 2) := by decide +kernel
theorem d_Mo_leafOf_12 : decode b_Mo_leafOf 12 = .ok (.iload_n 3, 1) := by decide +kernel
theorem d_Mo_leafOf_13 : decode b_Mo_leafOf 13 = .ok (.ifCond .lt 16, 3) := by decide +kernel
theorem d_Mo_leafOf_16 : decode b_Mo_leafOf 16 = .ok (.aload_n 0, 1) := by decide +kernel
theorem d_Mo_leafOf_17 : decode b_Mo_leafOf 17 = .ok (.getfield 19, 3) := by decide +kernel
theorem d_Mo_leafOf_20 : decode b_Mo_leafOf 20 = .ok (.iload 4, 2) := by decide +kernel
theorem d_Mo_leafOf_22 : decode b_Mo_leafOf 22 = .ok (.iload_n 3, 1) := by decide +kernel
theorem d_Mo_leafOf_23 : decode b_Mo_leafOf 23 = .ok (.iadd, 1) := by decide +kernel
theorem d_Mo_leafOf_24 : decode b_Mo_leafOf 24 = .ok (.iaload, 1) := by decide +kernel
theorem d_Mo_leafOf_25 : decode b_Mo_leafOf 25 = .ok (.i2l, 1) := by decide +kernel
theorem d_Mo_leafOf_26 : decode b_Mo_leafOf 26 = .ok (.goto 41, 3) := by decide +kernel
theorem d_Mo_leafOf_29 : decode b_Mo_leafOf 29 = .ok (.aload_n 0, 1) := by decide +kernel
theorem d_Mo_leafOf_30 : decode b_Mo_leafOf 30 = .ok (.getfield 19, 3) := by decide +kernel
theorem d_Mo_leafOf_33 : decode b_Mo_leafOf 33 = .ok (.iload 4, 2) := by decide +kernel
theorem d_Mo_leafOf_35 : decode b_Mo_leafOf 35 = .ok (.iaload, 1) := by decide +kernel
theorem d_Mo_leafOf_36 : decode b_Mo_leafOf 36 = .ok (.aload_n 0, 1) := by decide +kernel
theorem d_Mo_leafOf_37 : decode b_Mo_leafOf 37 = .ok (.getfield 19, 3) := by decide +kernel
theorem d_Mo_leafOf_40 : decode b_Mo_leafOf 40 = .ok (.iload 4, 2) := by decide +kernel
theorem d_Mo_leafOf_42 : decode b_Mo_leafOf 42 = .ok (.iconst 1, 1) := by decide +kernel
theorem d_Mo_leafOf_43 : decode b_Mo_leafOf 43 = .ok (.iadd, 1) := by decide +kernel
theorem d_Mo_leafOf_44 : decode b_Mo_leafOf 44 = .ok (.iaload, 1) := by decide +kernel
theorem d_Mo_leafOf_45 : decode b_Mo_leafOf 45 = .ok (.iadd, 1) := by decide +kernel
theorem d_Mo_leafOf_46 : decode b_Mo_leafOf 46 = .ok (.aload_n 0, 1) := by decide +kernel
theorem d_Mo_leafOf_47 : decode b_Mo_leafOf 47 = .ok (.getfield 19, 3) := by decide +kernel
theorem d_Mo_leafOf_50 : decode b_Mo_leafOf 50 = .ok (.iload 4, 2) := by decide +kernel
theorem d_Mo_leafOf_52 : decode b_Mo_leafOf 52 = .ok (.iconst 2, 1) := by decide +kernel
theorem d_Mo_leafOf_53 : decode b_Mo_leafOf 53 = .ok (.iadd, 1) := by decide +kernel
theorem d_Mo_leafOf_54 : decode b_Mo_leafOf 54 = .ok (.iaload, 1) := by decide +kernel
theorem d_Mo_leafOf_55 : decode b_Mo_leafOf 55 = .ok (.iadd, 1) := by decide +kernel
theorem d_Mo_leafOf_56 : decode b_Mo_leafOf 56 = .ok (.aload_n 0, 1) := by decide +kernel
theorem d_Mo_leafOf_57 : decode b_Mo_leafOf 57 = .ok (.getfield 19, 3) := by decide +kernel
theorem d_Mo_leafOf_60 : decode b_Mo_leafOf 60 = .ok (.iload 4, 2) := by decide +kernel
theorem d_Mo_leafOf_62 : decode b_Mo_leafOf 62 = .ok (.iconst 3, 1) := by decide +kernel
theorem d_Mo_leafOf_63 : decode b_Mo_leafOf 63 = .ok (.iadd, 1) := by decide +kernel
theorem d_Mo_leafOf_64 : decode b_Mo_leafOf 64 = .ok (.iaload, 1) := by decide +kernel
theorem d_Mo_leafOf_65 : decode b_Mo_leafOf 65 = .ok (.iadd, 1) := by decide +kernel
theorem d_Mo_leafOf_66 : decode b_Mo_leafOf 66 = .ok (.i2l, 1) := by decide +kernel
theorem d_Mo_leafOf_67 : decode b_Mo_leafOf 67 = .ok (.lreturn, 1) := by decide +kernel
theorem d_Mo_whole_0 : decode b_Mo_whole 0 = .ok (.iconst 0, 1) := by decide +kernel
theorem d_Mo_whole_1 : decode b_Mo_whole 1 = .ok (.aload_n 0, 1) := by decide +kernel
theorem d_Mo_whole_2 : decode b_Mo_whole 2 = .ok (.getfield 82, 3) := by decide +kernel
theorem d_Mo_whole_5 : decode b_Mo_whole 5 = .ok (.iconst 1, 1) := by decide +kernel
theorem d_Mo_whole_6 : decode b_Mo_whole 6 = .ok (.isub, 1) := by decide +kernel
theorem d_Mo_whole_7 : decode b_Mo_whole 7 = .ok (.iload_n 1, 1) := by decide +kernel
theorem d_Mo_whole_8 : decode b_Mo_whole 8 = .ok (.invokestatic 163, 3) := by decide +kernel
theorem d_Mo_whole_11 : decode b_Mo_whole 11 = .ok (.ireturn, 1) := by decide +kernel
theorem d_Mo_treeCount_0 : decode b_Mo_treeCount 0 = .ok (.aload_n 0, 1) := by decide +kernel
theorem d_Mo_treeCount_1 : decode b_Mo_treeCount 1 = .ok (.iload_n 1, 1) := by decide +kernel
theorem d_Mo_treeCount_2 : decode b_Mo_treeCount 2 = .ok (.invokevirtual 95, 3) := by decide +kernel
theorem d_Mo_treeCount_5 : decode b_Mo_treeCount 5 = .ok (.ifCond .ne 7, 3) := by decide +kernel
theorem d_Mo_treeCount_8 : decode b_Mo_treeCount 8 = .ok (.ldc2_w 145, 3) := by decide +kernel
theorem d_Mo_treeCount_11 : decode b_Mo_treeCount 11 = .ok (.lreturn, 1) := by decide +kernel
theorem d_Mo_treeCount_12 : decode b_Mo_treeCount 12 = .ok (.aload_n 0, 1) := by decide +kernel
theorem d_Mo_treeCount_13 : decode b_Mo_treeCount 13 = .ok (.getfield 82, 3) := by decide +kernel
theorem d_Mo_treeCount_16 : decode b_Mo_treeCount 16 = .ok (.ifCond .ne 5, 3) := by decide +kernel
theorem d_Mo_treeCount_19 : decode b_Mo_treeCount 19 = .ok (.lconst 0, 1) := by decide +kernel
theorem d_Mo_treeCount_20 : decode b_Mo_treeCount 20 = .ok (.lreturn, 1) := by decide +kernel
theorem d_Mo_treeCount_21 : decode b_Mo_treeCount 21 = .ok (.aload_n 0, 1) := by decide +kernel
theorem d_Mo_treeCount_22 : decode b_Mo_treeCount 22 = .ok (.iconst 0, 1) := by decide +kernel
theorem d_Mo_treeCount_23 : decode b_Mo_treeCount 23 = .ok (.iconst 0, 1) := by decide +kernel
theorem d_Mo_treeCount_24 : decode b_Mo_treeCount 24 = .ok (.iconst 4, 1) := by decide +kernel
theorem d_Mo_treeCount_25 : decode b_Mo_treeCount 25 = .ok (.invokevirtual 171, 3) := by decide +kernel
theorem d_Mo_treeCount_28 : decode b_Mo_treeCount 28 = .ok (.aload_n 0, 1) := by decide +kernel
theorem d_Mo_treeCount_29 : decode b_Mo_treeCount 29 = .ok (.getfield 53, 3) := by decide +kernel
theorem d_Mo_treeCount_32 : decode b_Mo_treeCount 32 = .ok (.aload_n 0, 1) := by decide +kernel
theorem d_Mo_treeCount_33 : decode b_Mo_treeCount 33 = .ok (.iload_n 1, 1) := by decide +kernel
theorem d_Mo_treeCount_34 : decode b_Mo_treeCount 34 = .ok (.invokevirtual 174, 3) := by decide +kernel
theorem d_Mo_treeCount_37 : decode b_Mo_treeCount 37 = .ok (.laload, 1) := by decide +kernel
theorem d_Mo_treeCount_38 : decode b_Mo_treeCount 38 = .ok (.lreturn, 1) := by decide +kernel
theorem d_Mo_treeBest_0 : decode b_Mo_treeBest 0 = .ok (.aload_n 0, 1) := by decide +kernel
theorem d_Mo_treeBest_1 : decode b_Mo_treeBest 1 = .ok (.iload_n 1, 1) := by decide +kernel
theorem d_Mo_treeBest_2 : decode b_Mo_treeBest 2 = .ok (.invokevirtual 177, 3) := by decide +kernel
theorem d_Mo_treeBest_5 : decode b_Mo_treeBest 5 = .ok (.lstore_n 2, 1) := by decide +kernel
theorem d_Mo_treeBest_6 : decode b_Mo_treeBest 6 = .ok (.lload_n 2, 1) := by decide +kernel
theorem d_Mo_treeBest_7 : decode b_Mo_treeBest 7 = .ok (.lconst 0, 1) := by decide +kernel
theorem d_Mo_treeBest_8 : decode b_Mo_treeBest 8 = .ok (.lcmp, 1) := by decide +kernel
theorem d_Mo_treeBest_9 : decode b_Mo_treeBest 9 = .ok (.ifCond .ge 9, 3) := by decide +kernel
theorem d_Mo_treeBest_12 : decode b_Mo_treeBest 12 = .ok (.ldc2_w 145, 3) := by decide +kernel
theorem d_Mo_treeBest_15 : decode b_Mo_treeBest 15 = .ok (.goto 25, 3) := by decide +kernel
theorem d_Mo_treeBest_18 : decode b_Mo_treeBest 18 = .ok (.lload_n 2, 1) := by decide +kernel
theorem d_Mo_treeBest_19 : decode b_Mo_treeBest 19 = .ok (.lconst 0, 1) := by decide +kernel
theorem d_Mo_treeBest_20 : decode b_Mo_treeBest 20 = .ok (.lcmp, 1) := by decide +kernel
theorem d_Mo_treeBest_21 : decode b_Mo_treeBest 21 = .ok (.ifCond .ne 9, 3) := by decide +kernel
theorem d_Mo_treeBest_24 : decode b_Mo_treeBest 24 = .ok (.ldc2_w 149, 3) := by decide +kernel
theorem d_Mo_treeBest_27 : decode b_Mo_treeBest 27 = .ok (.goto 13, 3) := by decide +kernel
theorem d_Mo_treeBest_30 : decode b_Mo_treeBest 30 = .ok (.aload_n 0, 1) := by decide +kernel
theorem d_Mo_treeBest_31 : decode b_Mo_treeBest 31 = .ok (.getfield 56, 3) := by decide +kernel
theorem d_Mo_treeBest_34 : decode b_Mo_treeBest 34 = .ok (.aload_n 0, 1) := by decide +kernel
theorem d_Mo_treeBest_35 : decode b_Mo_treeBest 35 = .ok (.iload_n 1, 1) := by decide +kernel
theorem d_Mo_treeBest_36 : decode b_Mo_treeBest 36 = .ok (.invokevirtual 174, 3) := by decide +kernel
theorem d_Mo_treeBest_39 : decode b_Mo_treeBest 39 = .ok (.laload, 1) := by decide +kernel
theorem d_Mo_treeBest_40 : decode b_Mo_treeBest 40 = .ok (.lreturn, 1) := by decide +kernel
theorem d_Mo_treeAt_0 : decode b_Mo_treeAt 0 = .ok (.aload_n 0, 1) := by decide +kernel
theorem d_Mo_treeAt_1 : decode b_Mo_treeAt 1 = .ok (.iload_n 1, 1) := by decide +kernel
theorem d_Mo_treeAt_2 : decode b_Mo_treeAt 2 = .ok (.invokevirtual 177, 3) := by decide +kernel
theorem d_Mo_treeAt_5 : decode b_Mo_treeAt 5 = .ok (.lstore_n 3, 1) := by decide +kernel
theorem d_Mo_treeAt_6 : decode b_Mo_treeAt 6 = .ok (.lload_n 3, 1) := by decide +kernel
theorem d_Mo_treeAt_7 : decode b_Mo_treeAt 7 = .ok (.lconst 0, 1) := by decide +kernel
theorem d_Mo_treeAt_8 : decode b_Mo_treeAt 8 = .ok (.lcmp, 1) := by decide +kernel
theorem d_Mo_treeAt_9 : decode b_Mo_treeAt 9 = .ok (.ifCond .ge 5, 3) := by decide +kernel
theorem d_Mo_treeAt_12 : decode b_Mo_treeAt 12 = .ok (.iconst (-1), 1) := by decide +kernel
theorem d_Mo_treeAt_13 : decode b_Mo_treeAt 13 = .ok (.ireturn, 1) := by decide +kernel
theorem d_Mo_treeAt_14 : decode b_Mo_treeAt 14 = .ok (.lload_n 3, 1) := by decide +kernel
theorem d_Mo_treeAt_15 : decode b_Mo_treeAt 15 = .ok (.lconst 0, 1) := by decide +kernel
theorem d_Mo_treeAt_16 : decode b_Mo_treeAt 16 = .ok (.lcmp, 1) := by decide +kernel
theorem d_Mo_treeAt_17 : decode b_Mo_treeAt 17 = .ok (.ifCond .ne 6, 3) := by decide +kernel
theorem d_Mo_treeAt_20 : decode b_Mo_treeAt 20 = .ok (.bipush (-3), 2) := by decide +kernel
theorem d_Mo_treeAt_22 : decode b_Mo_treeAt 22 = .ok (.ireturn, 1) := by decide +kernel
theorem d_Mo_treeAt_23 : decode b_Mo_treeAt 23 = .ok (.iload_n 2, 1) := by decide +kernel
theorem d_Mo_treeAt_24 : decode b_Mo_treeAt 24 = .ok (.ifCond .lt 15, 3) := by decide +kernel
theorem d_Mo_treeAt_27 : decode b_Mo_treeAt 27 = .ok (.iload_n 2, 1) := by decide +kernel
theorem d_Mo_treeAt_28 : decode b_Mo_treeAt 28 = .ok (.iconst 2, 1) := by decide +kernel
theorem d_Mo_treeAt_29 : decode b_Mo_treeAt 29 = .ok (.aload_n 0, 1) := by decide +kernel
theorem d_Mo_treeAt_30 : decode b_Mo_treeAt 30 = .ok (.getfield 82, 3) := by decide +kernel
theorem d_Mo_treeAt_33 : decode b_Mo_treeAt 33 = .ok (.imul, 1) := by decide +kernel
theorem d_Mo_treeAt_34 : decode b_Mo_treeAt 34 = .ok (.iconst 2, 1) := by decide +kernel
theorem d_Mo_treeAt_35 : decode b_Mo_treeAt 35 = .ok (.isub, 1) := by decide +kernel
theorem d_Mo_treeAt_36 : decode b_Mo_treeAt 36 = .ok (.if_icmp .le 5, 3) := by decide +kernel
theorem d_Mo_treeAt_39 : decode b_Mo_treeAt 39 = .ok (.iconst (-1), 1) := by decide +kernel
theorem d_Mo_treeAt_40 : decode b_Mo_treeAt 40 = .ok (.ireturn, 1) := by decide +kernel
theorem d_Mo_treeAt_41 : decode b_Mo_treeAt 41 = .ok (.iconst 1, 1) := by decide +kernel
theorem d_Mo_treeAt_42 : decode b_Mo_treeAt 42 = .ok (.istore 5, 2) := by decide +kernel
theorem d_Mo_treeAt_44 : decode b_Mo_treeAt 44 = .ok (.aload_n 0, 1) := by decide +kernel
theorem d_Mo_treeAt_45 : decode b_Mo_treeAt 45 = .ok (.getfield 59, 3) := by decide +kernel
theorem d_Mo_treeAt_48 : decode b_Mo_treeAt 48 = .ok (.iconst 0, 1) := by decide +kernel
theorem d_Mo_treeAt_49 : decode b_Mo_treeAt 49 = .ok (.iconst 0, 1) := by decide +kernel
theorem d_Mo_treeAt_50 : decode b_Mo_treeAt 50 = .ok (.iastore, 1) := by decide +kernel
theorem d_Mo_treeAt_51 : decode b_Mo_treeAt 51 = .ok (.aload_n 0, 1) := by decide +kernel
theorem d_Mo_treeAt_52 : decode b_Mo_treeAt 52 = .ok (.getfield 62, 3) := by decide +kernel
theorem d_Mo_treeAt_55 : decode b_Mo_treeAt 55 = .ok (.iconst 0, 1) := by decide +kernel
theorem d_Mo_treeAt_56 : decode b_Mo_treeAt 56 = .ok (.aload_n 0, 1) := by decide +kernel
theorem d_Mo_treeAt_57 : decode b_Mo_treeAt 57 = .ok (.getfield 82, 3) := by decide +kernel
theorem d_Mo_treeAt_60 : decode b_Mo_treeAt 60 = .ok (.iconst 1, 1) := by decide +kernel
theorem d_Mo_treeAt_61 : decode b_Mo_treeAt 61 = .ok (.isub, 1) := by decide +kernel
theorem d_Mo_treeAt_62 : decode b_Mo_treeAt 62 = .ok (.iastore, 1) := by decide +kernel
theorem d_Mo_treeAt_63 : decode b_Mo_treeAt 63 = .ok (.aload_n 0, 1) := by decide +kernel
theorem d_Mo_treeAt_64 : decode b_Mo_treeAt 64 = .ok (.getfield 65, 3) := by decide +kernel
theorem d_Mo_treeAt_67 : decode b_Mo_treeAt 67 = .ok (.iconst 0, 1) := by decide +kernel
theorem d_Mo_treeAt_68 : decode b_Mo_treeAt 68 = .ok (.iload_n 1, 1) := by decide +kernel
theorem d_Mo_treeAt_69 : decode b_Mo_treeAt 69 = .ok (.iastore, 1) := by decide +kernel
theorem d_Mo_treeAt_70 : decode b_Mo_treeAt 70 = .ok (.iload_n 2, 1) := by decide +kernel
theorem d_Mo_treeAt_71 : decode b_Mo_treeAt 71 = .ok (.istore 6, 2) := by decide +kernel
theorem d_Mo_treeAt_73 : decode b_Mo_treeAt 73 = .ok (.iload 5, 2) := by decide +kernel
theorem d_Mo_treeAt_75 : decode b_Mo_treeAt 75 = .ok (.ifCond .le 141, 3) := by decide +kernel
theorem d_Mo_treeAt_78 : decode b_Mo_treeAt 78 = .ok (.iinc 5 (-1), 3) := by decide +kernel
theorem d_Mo_treeAt_81 : decode b_Mo_treeAt 81 = .ok (.aload_n 0, 1) := by decide +kernel
theorem d_Mo_treeAt_82 : decode b_Mo_treeAt 82 = .ok (.getfield 59, 3) := by decide +kernel
theorem d_Mo_treeAt_85 : decode b_Mo_treeAt 85 = .ok (.iload 5, 2) := by decide +kernel
theorem d_Mo_treeAt_87 : decode b_Mo_treeAt 87 = .ok (.iaload, 1) := by decide +kernel
theorem d_Mo_treeAt_88 : decode b_Mo_treeAt 88 = .ok (.istore 7, 2) := by decide +kernel
theorem d_Mo_treeAt_90 : decode b_Mo_treeAt 90 = .ok (.aload_n 0, 1) := by decide +kernel
theorem d_Mo_treeAt_91 : decode b_Mo_treeAt 91 = .ok (.getfield 62, 3) := by decide +kernel
theorem d_Mo_treeAt_94 : decode b_Mo_treeAt 94 = .ok (.iload 5, 2) := by decide +kernel
theorem d_Mo_treeAt_96 : decode b_Mo_treeAt 96 = .ok (.iaload, 1) := by decide +kernel
theorem d_Mo_treeAt_97 : decode b_Mo_treeAt 97 = .ok (.istore 8, 2) := by decide +kernel
theorem d_Mo_treeAt_99 : decode b_Mo_treeAt 99 = .ok (.aload_n 0, 1) := by decide +kernel
theorem d_Mo_treeAt_100 : decode b_Mo_treeAt 100 = .ok (.iload 7, 2) := by decide +kernel
theorem d_Mo_treeAt_102 : decode b_Mo_treeAt 102 = .ok (.iload 8, 2) := by decide +kernel
theorem d_Mo_treeAt_104 : decode b_Mo_treeAt 104 = .ok (.aload_n 0, 1) := by decide +kernel
theorem d_Mo_treeAt_105 : decode b_Mo_treeAt 105 = .ok (.getfield 65, 3) := by decide +kernel
theorem d_Mo_treeAt_108 : decode b_Mo_treeAt 108 = .ok (.iload 5, 2) := by decide +kernel
theorem d_Mo_treeAt_110 : decode b_Mo_treeAt 110 = .ok (.iaload, 1) := by decide +kernel
theorem d_Mo_treeAt_111 : decode b_Mo_treeAt 111 = .ok (.invokevirtual 181, 3) := by decide +kernel
theorem d_Mo_treeAt_114 : decode b_Mo_treeAt 114 = .ok (.istore 9, 2) := by decide +kernel
theorem d_Mo_treeAt_116 : decode b_Mo_treeAt 116 = .ok (.iload 6, 2) := by decide +kernel
theorem d_Mo_treeAt_118 : decode b_Mo_treeAt 118 = .ok (.ifCond .ne 6, 3) := by decide +kernel
theorem d_Mo_treeAt_121 : decode b_Mo_treeAt 121 = .ok (.iload 9, 2) := by decide +kernel
theorem d_Mo_treeAt_123 : decode b_Mo_treeAt 123 = .ok (.ireturn, 1) := by decide +kernel
theorem d_Mo_treeAt_124 : decode b_Mo_treeAt 124 = .ok (.iinc 6 (-1), 3) := by decide +kernel
theorem d_Mo_treeAt_127 : decode b_Mo_treeAt 127 = .ok (.iload 9, 2) := by decide +kernel
theorem d_Mo_treeAt_129 : decode b_Mo_treeAt 129 = .ok (.ifCond .le 84, 3) := by decide +kernel
theorem d_Mo_treeAt_132 : decode b_Mo_treeAt 132 = .ok (.iload 9, 2) := by decide +kernel
theorem d_Mo_treeAt_134 : decode b_Mo_treeAt 134 = .ok (.bipush 100, 2) := by decide +kernel
theorem d_Mo_treeAt_136 : decode b_Mo_treeAt 136 = .ok (.idiv, 1) := by decide +kernel
theorem d_Mo_treeAt_137 : decode b_Mo_treeAt 137 = .ok (.istore 10, 2) := by decide +kernel
theorem d_Mo_treeAt_139 : decode b_Mo_treeAt 139 = .ok (.aload_n 0, 1) := by decide +kernel
theorem d_Mo_treeAt_140 : decode b_Mo_treeAt 140 = .ok (.getfield 59, 3) := by decide +kernel
theorem d_Mo_treeAt_143 : decode b_Mo_treeAt 143 = .ok (.iload 5, 2) := by decide +kernel
theorem d_Mo_treeAt_145 : decode b_Mo_treeAt 145 = .ok (.iload 10, 2) := by decide +kernel
theorem d_Mo_treeAt_147 : decode b_Mo_treeAt 147 = .ok (.iastore, 1) := by decide +kernel
theorem d_Mo_treeAt_148 : decode b_Mo_treeAt 148 = .ok (.aload_n 0, 1) := by decide +kernel
theorem d_Mo_treeAt_149 : decode b_Mo_treeAt 149 = .ok (.getfield 62, 3) := by decide +kernel
theorem d_Mo_treeAt_152 : decode b_Mo_treeAt 152 = .ok (.iload 5, 2) := by decide +kernel
theorem d_Mo_treeAt_154 : decode b_Mo_treeAt 154 = .ok (.iload 8, 2) := by decide +kernel
theorem d_Mo_treeAt_156 : decode b_Mo_treeAt 156 = .ok (.iastore, 1) := by decide +kernel
theorem d_Mo_treeAt_157 : decode b_Mo_treeAt 157 = .ok (.aload_n 0, 1) := by decide +kernel
theorem d_Mo_treeAt_158 : decode b_Mo_treeAt 158 = .ok (.getfield 65, 3) := by decide +kernel
theorem d_Mo_treeAt_161 : decode b_Mo_treeAt 161 = .ok (.iload 5, 2) := by decide +kernel
theorem d_Mo_treeAt_163 : decode b_Mo_treeAt 163 = .ok (.iload 9, 2) := by decide +kernel
theorem d_Mo_treeAt_165 : decode b_Mo_treeAt 165 = .ok (.bipush 10, 2) := by decide +kernel
theorem d_Mo_treeAt_167 : decode b_Mo_treeAt 167 = .ok (.irem, 1) := by decide +kernel
theorem d_Mo_treeAt_168 : decode b_Mo_treeAt 168 = .ok (.iastore, 1) := by decide +kernel
theorem d_Mo_treeAt_169 : decode b_Mo_treeAt 169 = .ok (.aload_n 0, 1) := by decide +kernel
theorem d_Mo_treeAt_170 : decode b_Mo_treeAt 170 = .ok (.getfield 59, 3) := by decide +kernel
theorem d_Mo_treeAt_173 : decode b_Mo_treeAt 173 = .ok (.iload 5, 2) := by decide +kernel
theorem d_Mo_treeAt_175 : decode b_Mo_treeAt 175 = .ok (.iconst 1, 1) := by decide +kernel
theorem d_Mo_treeAt_176 : decode b_Mo_treeAt 176 = .ok (.iadd, 1) := by decide +kernel
theorem d_Mo_treeAt_177 : decode b_Mo_treeAt 177 = .ok (.iload 7, 2) := by decide +kernel
theorem d_Mo_treeAt_179 : decode b_Mo_treeAt 179 = .ok (.iastore, 1) := by decide +kernel
theorem d_Mo_treeAt_180 : decode b_Mo_treeAt 180 = .ok (.aload_n 0, 1) := by decide +kernel
theorem d_Mo_treeAt_181 : decode b_Mo_treeAt 181 = .ok (.getfield 62, 3) := by decide +kernel
theorem d_Mo_treeAt_184 : decode b_Mo_treeAt 184 = .ok (.iload 5, 2) := by decide +kernel
theorem d_Mo_treeAt_186 : decode b_Mo_treeAt 186 = .ok (.iconst 1, 1) := by decide +kernel
theorem d_Mo_treeAt_187 : decode b_Mo_treeAt 187 = .ok (.iadd, 1) := by decide +kernel
theorem d_Mo_treeAt_188 : decode b_Mo_treeAt 188 = .ok (.iload 10, 2) := by decide +kernel
theorem d_Mo_treeAt_190 : decode b_Mo_treeAt 190 = .ok (.iconst 1, 1) := by decide +kernel
theorem d_Mo_treeAt_191 : decode b_Mo_treeAt 191 = .ok (.isub, 1) := by decide +kernel
theorem d_Mo_treeAt_192 : decode b_Mo_treeAt 192 = .ok (.iastore, 1) := by decide +kernel
theorem d_Mo_treeAt_193 : decode b_Mo_treeAt 193 = .ok (.aload_n 0, 1) := by decide +kernel
theorem d_Mo_treeAt_194 : decode b_Mo_treeAt 194 = .ok (.getfield 65, 3) := by decide +kernel
theorem d_Mo_treeAt_197 : decode b_Mo_treeAt 197 = .ok (.iload 5, 2) := by decide +kernel
theorem d_Mo_treeAt_199 : decode b_Mo_treeAt 199 = .ok (.iconst 1, 1) := by decide +kernel
theorem d_Mo_treeAt_200 : decode b_Mo_treeAt 200 = .ok (.iadd, 1) := by decide +kernel
theorem d_Mo_treeAt_201 : decode b_Mo_treeAt 201 = .ok (.iload 9, 2) := by decide +kernel
theorem d_Mo_treeAt_203 : decode b_Mo_treeAt 203 = .ok (.bipush 10, 2) := by decide +kernel
theorem d_Mo_treeAt_205 : decode b_Mo_treeAt 205 = .ok (.idiv, 1) := by decide +kernel
theorem d_Mo_treeAt_206 : decode b_Mo_treeAt 206 = .ok (.bipush 10, 2) := by decide +kernel
theorem d_Mo_treeAt_208 : decode b_Mo_treeAt 208 = .ok (.irem, 1) := by decide +kernel
theorem d_Mo_treeAt_209 : decode b_Mo_treeAt 209 = .ok (.iastore, 1) := by decide +kernel
theorem d_Mo_treeAt_210 : decode b_Mo_treeAt 210 = .ok (.iinc 5 2, 3) := by decide +kernel
theorem d_Mo_treeAt_213 : decode b_Mo_treeAt 213 = .ok (.goto (-140), 3) := by decide +kernel
theorem d_Mo_treeAt_216 : decode b_Mo_treeAt 216 = .ok (.iconst (-1), 1) := by decide +kernel
theorem d_Mo_treeAt_217 : decode b_Mo_treeAt 217 = .ok (.ireturn, 1) := by decide +kernel
theorem d_Mo_leastOf_0 : decode b_Mo_leastOf 0 = .ok (.iload_n 1, 1) := by decide +kernel
theorem d_Mo_leastOf_1 : decode b_Mo_leastOf 1 = .ok (.iload_n 2, 1) := by decide +kernel
theorem d_Mo_leastOf_2 : decode b_Mo_leastOf 2 = .ok (.if_icmp .ne 5, 3) := by decide +kernel
theorem d_Mo_leastOf_5 : decode b_Mo_leastOf 5 = .ok (.iconst 0, 1) := by decide +kernel
theorem d_Mo_leastOf_6 : decode b_Mo_leastOf 6 = .ok (.ireturn, 1) := by decide +kernel
theorem d_Mo_leastOf_7 : decode b_Mo_leastOf 7 = .ok (.iload_n 1, 1) := by decide +kernel
theorem d_Mo_leastOf_8 : decode b_Mo_leastOf 8 = .ok (.iconst 1, 1) := by decide +kernel
theorem d_Mo_leastOf_9 : decode b_Mo_leastOf 9 = .ok (.iadd, 1) := by decide +kernel
theorem d_Mo_leastOf_10 : decode b_Mo_leastOf 10 = .ok (.istore 4, 2) := by decide +kernel
theorem d_Mo_leastOf_12 : decode b_Mo_leastOf 12 = .ok (.iload 4, 2) := by decide +kernel
theorem d_Mo_leastOf_14 : decode b_Mo_leastOf 14 = .ok (.iload_n 2, 1) := by decide +kernel
theorem d_Mo_leastOf_15 : decode b_Mo_leastOf 15 = .ok (.if_icmp .gt 127, 3) := by decide +kernel
theorem d_Mo_leastOf_18 : decode b_Mo_leastOf 18 = .ok (.iconst 0, 1) := by decide +kernel
theorem d_Mo_leastOf_19 : decode b_Mo_leastOf 19 = .ok (.istore 5, 2) := by decide +kernel
theorem d_Mo_leastOf_21 : decode b_Mo_leastOf 21 = .ok (.iload 5, 2) := by decide +kernel
theorem d_Mo_leastOf_23 : decode b_Mo_leastOf 23 = .ok (.aload_n 0, 1) := by decide +kernel
theorem d_Mo_leastOf_24 : decode b_Mo_leastOf 24 = .ok (.getfield 79, 3) := by decide +kernel
theorem d_Mo_leastOf_27 : decode b_Mo_leastOf 27 = .ok (.if_icmp .ge 109, 3) := by decide +kernel
theorem d_Mo_leastOf_30 : decode b_Mo_leastOf 30 = .ok (.iconst 0, 1) := by decide +kernel
theorem d_Mo_leastOf_31 : decode b_Mo_leastOf 31 = .ok (.istore 6, 2) := by decide +kernel
theorem d_Mo_leastOf_33 : decode b_Mo_leastOf 33 = .ok (.iload 6, 2) := by decide +kernel
theorem d_Mo_leastOf_35 : decode b_Mo_leastOf 35 = .ok (.aload_n 0, 1) := by decide +kernel
theorem d_Mo_leastOf_36 : decode b_Mo_leastOf 36 = .ok (.getfield 79, 3) := by decide +kernel
theorem d_Mo_leastOf_39 : decode b_Mo_leastOf 39 = .ok (.if_icmp .ge 91, 3) := by decide +kernel
theorem d_Mo_leastOf_42 : decode b_Mo_leastOf 42 = .ok (.aload_n 0, 1) := by decide +kernel
theorem d_Mo_leastOf_43 : decode b_Mo_leastOf 43 = .ok (.getfield 16, 3) := by decide +kernel
theorem d_Mo_leastOf_46 : decode b_Mo_leastOf 46 = .ok (.bipush 16, 2) := by decide +kernel
theorem d_Mo_leastOf_48 : decode b_Mo_leastOf 48 = .ok (.iload_n 3, 1) := by decide +kernel
theorem d_Mo_leastOf_49 : decode b_Mo_leastOf 49 = .ok (.imul, 1) := by decide +kernel
theorem d_Mo_leastOf_50 : decode b_Mo_leastOf 50 = .ok (.iconst 4, 1) := by decide +kernel
theorem d_Mo_leastOf_51 : decode b_Mo_leastOf 51 = .ok (.iload 5, 2) := by decide +kernel
theorem d_Mo_leastOf_53 : decode b_Mo_leastOf 53 = .ok (.imul, 1) := by decide +kernel
theorem d_Mo_leastOf_54 : decode b_Mo_leastOf 54 = .ok (.iadd, 1) := by decide +kernel
theorem d_Mo_leastOf_55 : decode b_Mo_leastOf 55 = .ok (.iload 6, 2) := by decide +kernel
theorem d_Mo_leastOf_57 : decode b_Mo_leastOf 57 = .ok (.iadd, 1) := by decide +kernel
theorem d_Mo_leastOf_58 : decode b_Mo_leastOf 58 = .ok (.iaload, 1) := by decide +kernel
theorem d_Mo_leastOf_59 : decode b_Mo_leastOf 59 = .ok (.i2l, 1) := by decide +kernel
theorem d_Mo_leastOf_60 : decode b_Mo_leastOf 60 = .ok (.aload_n 0, 1) := by decide +kernel
theorem d_Mo_leastOf_61 : decode b_Mo_leastOf 61 = .ok (.getfield 56, 3) := by decide +kernel
theorem d_Mo_leastOf_64 : decode b_Mo_leastOf 64 = .ok (.iload_n 1, 1) := by decide +kernel
theorem d_Mo_leastOf_65 : decode b_Mo_leastOf 65 = .ok (.iload 4, 2) := by decide +kernel
theorem d_Mo_leastOf_67 : decode b_Mo_leastOf 67 = .ok (.iconst 1, 1) := by decide +kernel
theorem d_Mo_leastOf_68 : decode b_Mo_leastOf 68 = .ok (.isub, 1) := by decide +kernel
theorem d_Mo_leastOf_69 : decode b_Mo_leastOf 69 = .ok (.iload 5, 2) := by decide +kernel
theorem d_Mo_leastOf_71 : decode b_Mo_leastOf 71 = .ok (.invokestatic 163, 3) := by decide +kernel
theorem d_Mo_leastOf_74 : decode b_Mo_leastOf 74 = .ok (.laload, 1) := by decide +kernel
theorem d_Mo_leastOf_75 : decode b_Mo_leastOf 75 = .ok (.lmul, 1) := by decide +kernel
theorem d_Mo_leastOf_76 : decode b_Mo_leastOf 76 = .ok (.aload_n 0, 1) := by decide +kernel
theorem d_Mo_leastOf_77 : decode b_Mo_leastOf 77 = .ok (.getfield 56, 3) := by decide +kernel
theorem d_Mo_leastOf_80 : decode b_Mo_leastOf 80 = .ok (.iload 4, 2) := by decide +kernel
theorem d_Mo_leastOf_82 : decode b_Mo_leastOf 82 = .ok (.iload_n 2, 1) := by decide +kernel
theorem d_Mo_leastOf_83 : decode b_Mo_leastOf 83 = .ok (.iload 6, 2) := by decide +kernel
theorem d_Mo_leastOf_85 : decode b_Mo_leastOf 85 = .ok (.invokestatic 163, 3) := by decide +kernel
theorem d_Mo_leastOf_88 : decode b_Mo_leastOf 88 = .ok (.laload, 1) := by decide +kernel
theorem d_Mo_leastOf_89 : decode b_Mo_leastOf 89 = .ok (.lmul, 1) := by decide +kernel
theorem d_Mo_leastOf_90 : decode b_Mo_leastOf 90 = .ok (.lstore 7, 2) := by decide +kernel
theorem d_Mo_leastOf_92 : decode b_Mo_leastOf 92 = .ok (.lload 7, 2) := by decide +kernel
theorem d_Mo_leastOf_94 : decode b_Mo_leastOf 94 = .ok (.aload_n 0, 1) := by decide +kernel
theorem d_Mo_leastOf_95 : decode b_Mo_leastOf 95 = .ok (.getfield 56, 3) := by decide +kernel
theorem d_Mo_leastOf_98 : decode b_Mo_leastOf 98 = .ok (.iload_n 1, 1) := by decide +kernel
theorem d_Mo_leastOf_99 : decode b_Mo_leastOf 99 = .ok (.iload_n 2, 1) := by decide +kernel
theorem d_Mo_leastOf_100 : decode b_Mo_leastOf 100 = .ok (.iload_n 3, 1) := by decide +kernel
theorem d_Mo_leastOf_101 : decode b_Mo_leastOf 101 = .ok (.invokestatic 163, 3) := by decide +kernel
theorem d_Mo_leastOf_104 : decode b_Mo_leastOf 104 = .ok (.laload, 1) := by decide +kernel
theorem d_Mo_leastOf_105 : decode b_Mo_leastOf 105 = .ok (.lcmp, 1) := by decide +kernel
theorem d_Mo_leastOf_106 : decode b_Mo_leastOf 106 = .ok (.ifCond .ne 18, 3) := by decide +kernel
theorem d_Mo_leastOf_109 : decode b_Mo_leastOf 109 = .ok (.bipush 100, 2) := by decide +kernel
theorem d_Mo_leastOf_111 : decode b_Mo_leastOf 111 = .ok (.iload 4, 2) := by decide +kernel
theorem d_Mo_leastOf_113 : decode b_Mo_leastOf 113 = .ok (.imul, 1) := by decide +kernel
theorem d_Mo_leastOf_114 : decode b_Mo_leastOf 114 = .ok (.bipush 10, 2) := by decide +kernel
theorem d_Mo_leastOf_116 : decode b_Mo_leastOf 116 = .ok (.iload 5, 2) := by decide +kernel
theorem d_Mo_leastOf_118 : decode b_Mo_leastOf 118 = .ok (.imul, 1) := by decide +kernel
theorem d_Mo_leastOf_119 : decode b_Mo_leastOf 119 = .ok (.iadd, 1) := by decide +kernel
theorem d_Mo_leastOf_120 : decode b_Mo_leastOf 120 = .ok (.iload 6, 2) := by decide +kernel
theorem d_Mo_leastOf_122 : decode b_Mo_leastOf 122 = .ok (.iadd, 1) := by decide +kernel
theorem d_Mo_leastOf_123 : decode b_Mo_leastOf 123 = .ok (.ireturn, 1) := by decide +kernel
theorem d_Mo_leastOf_124 : decode b_Mo_leastOf 124 = .ok (.iinc 6 1, 3) := by decide +kernel
theorem d_Mo_leastOf_127 : decode b_Mo_leastOf 127 = .ok (.goto (-94), 3) := by decide +kernel
theorem d_Mo_leastOf_130 : decode b_Mo_leastOf 130 = .ok (.iinc 5 1, 3) := by decide +kernel
theorem d_Mo_leastOf_133 : decode b_Mo_leastOf 133 = .ok (.goto (-112), 3) := by decide +kernel
theorem d_Mo_leastOf_136 : decode b_Mo_leastOf 136 = .ok (.iinc 4 1, 3) := by decide +kernel
theorem d_Mo_leastOf_139 : decode b_Mo_leastOf 139 = .ok (.goto (-127), 3) := by decide +kernel
theorem d_Mo_leastOf_142 : decode b_Mo_leastOf 142 = .ok (.iconst (-1), 1) := by decide +kernel
theorem d_Mo_leastOf_143 : decode b_Mo_leastOf 143 = .ok (.ireturn, 1) := by decide +kernel
theorem d_Mo_span_0 : decode b_Mo_span 0 = .ok (.aload_n 0, 1) := by decide +kernel
theorem d_Mo_span_1 : decode b_Mo_span 1 = .ok (.iload_n 1, 1) := by decide +kernel
theorem d_Mo_span_2 : decode b_Mo_span 2 = .ok (.invokevirtual 95, 3) := by decide +kernel
theorem d_Mo_span_5 : decode b_Mo_span 5 = .ok (.ifCond .eq 34, 3) := by decide +kernel
theorem d_Mo_span_8 : decode b_Mo_span 8 = .ok (.aload_n 0, 1) := by decide +kernel
theorem d_Mo_span_9 : decode b_Mo_span 9 = .ok (.iload_n 2, 1) := by decide +kernel
theorem d_Mo_span_10 : decode b_Mo_span 10 = .ok (.invokevirtual 95, 3) := by decide +kernel
theorem d_Mo_span_13 : decode b_Mo_span 13 = .ok (.ifCond .eq 26, 3) := by decide +kernel
theorem d_Mo_span_16 : decode b_Mo_span 16 = .ok (.aload_n 0, 1) := by decide +kernel
theorem d_Mo_span_17 : decode b_Mo_span 17 = .ok (.iload_n 3, 1) := by decide +kernel
theorem d_Mo_span_18 : decode b_Mo_span 18 = .ok (.invokevirtual 98, 3) := by decide +kernel
theorem d_Mo_span_21 : decode b_Mo_span 21 = .ok (.ifCond .eq 18, 3) := by decide +kernel
theorem d_Mo_span_24 : decode b_Mo_span 24 = .ok (.aload_n 0, 1) := by decide +kernel
theorem d_Mo_span_25 : decode b_Mo_span 25 = .ok (.iload 4, 2) := by decide +kernel
theorem d_Mo_span_27 : decode b_Mo_span 27 = .ok (.invokevirtual 98, 3) := by decide +kernel
theorem d_Mo_span_30 : decode b_Mo_span 30 = .ok (.ifCond .eq 9, 3) := by decide +kernel
theorem d_Mo_span_33 : decode b_Mo_span 33 = .ok (.iload_n 3, 1) := by decide +kernel
theorem d_Mo_span_34 : decode b_Mo_span 34 = .ok (.iload 4, 2) := by decide +kernel
theorem d_Mo_span_36 : decode b_Mo_span 36 = .ok (.if_icmp .le 7, 3) := by decide +kernel
theorem d_Mo_span_39 : decode b_Mo_span 39 = .ok (.ldc2_w 145, 3) := by decide +kernel
theorem d_Mo_span_42 : decode b_Mo_span 42 = .ok (.lreturn, 1) := by decide +kernel
theorem d_Mo_span_43 : decode b_Mo_span 43 = .ok (.iload 5, 2) := by decide +kernel
theorem d_Mo_span_45 : decode b_Mo_span 45 = .ok (.ifCond .lt 9, 3) := by decide +kernel
theorem d_Mo_span_48 : decode b_Mo_span 48 = .ok (.iload 5, 2) := by decide +kernel
theorem d_Mo_span_50 : decode b_Mo_span 50 = .ok (.iconst 1, 1) := by decide +kernel
theorem d_Mo_span_51 : decode b_Mo_span 51 = .ok (.if_icmp .le 7, 3) := by decide +kernel
theorem d_Mo_span_54 : decode b_Mo_span 54 = .ok (.ldc2_w 147, 3) := by decide +kernel
theorem d_Mo_span_57 : decode b_Mo_span 57 = .ok (.lreturn, 1) := by decide +kernel
theorem d_Mo_span_58 : decode b_Mo_span 58 = .ok (.aload_n 0, 1) := by decide +kernel
theorem d_Mo_span_59 : decode b_Mo_span 59 = .ok (.iload_n 1, 1) := by decide +kernel
theorem d_Mo_span_60 : decode b_Mo_span 60 = .ok (.invokevirtual 177, 3) := by decide +kernel
theorem d_Mo_span_63 : decode b_Mo_span 63 = .ok (.lstore 6, 2) := by decide +kernel
theorem d_Mo_span_65 : decode b_Mo_span 65 = .ok (.lload 6, 2) := by decide +kernel
theorem d_Mo_span_67 : decode b_Mo_span 67 = .ok (.lconst 0, 1) := by decide +kernel
theorem d_Mo_span_68 : decode b_Mo_span 68 = .ok (.lcmp, 1) := by decide +kernel
theorem d_Mo_span_69 : decode b_Mo_span 69 = .ok (.ifCond .ne 7, 3) := by decide +kernel
theorem d_Mo_span_72 : decode b_Mo_span 72 = .ok (.ldc2_w 149, 3) := by decide +kernel
theorem d_Mo_span_75 : decode b_Mo_span 75 = .ok (.lreturn, 1) := by decide +kernel
theorem d_Mo_span_76 : decode b_Mo_span 76 = .ok (.aload_n 0, 1) := by decide +kernel
theorem d_Mo_span_77 : decode b_Mo_span 77 = .ok (.iload_n 3, 1) := by decide +kernel
theorem d_Mo_span_78 : decode b_Mo_span 78 = .ok (.iload 4, 2) := by decide +kernel
theorem d_Mo_span_80 : decode b_Mo_span 80 = .ok (.iload_n 2, 1) := by decide +kernel
theorem d_Mo_span_81 : decode b_Mo_span 81 = .ok (.invokevirtual 171, 3) := by decide +kernel
theorem d_Mo_span_84 : decode b_Mo_span 84 = .ok (.aload_n 0, 1) := by decide +kernel
theorem d_Mo_span_85 : decode b_Mo_span 85 = .ok (.getfield 50, 3) := by decide +kernel
theorem d_Mo_span_88 : decode b_Mo_span 88 = .ok (.aload_n 0, 1) := by decide +kernel
theorem d_Mo_span_89 : decode b_Mo_span 89 = .ok (.iload_n 1, 1) := by decide +kernel
theorem d_Mo_span_90 : decode b_Mo_span 90 = .ok (.invokevirtual 174, 3) := by decide +kernel
theorem d_Mo_span_93 : decode b_Mo_span 93 = .ok (.laload, 1) := by decide +kernel
theorem d_Mo_span_94 : decode b_Mo_span 94 = .ok (.lstore 8, 2) := by decide +kernel
theorem d_Mo_span_96 : decode b_Mo_span 96 = .ok (.aload_n 0, 1) := by decide +kernel
theorem d_Mo_span_97 : decode b_Mo_span 97 = .ok (.iload_n 3, 1) := by decide +kernel
theorem d_Mo_span_98 : decode b_Mo_span 98 = .ok (.iload 4, 2) := by decide +kernel
theorem d_Mo_span_100 : decode b_Mo_span 100 = .ok (.iconst (-1), 1) := by decide +kernel
theorem d_Mo_span_101 : decode b_Mo_span 101 = .ok (.invokevirtual 171, 3) := by decide +kernel
theorem d_Mo_span_104 : decode b_Mo_span 104 = .ok (.lload 8, 2) := by decide +kernel
theorem d_Mo_span_106 : decode b_Mo_span 106 = .ok (.aload_n 0, 1) := by decide +kernel
theorem d_Mo_span_107 : decode b_Mo_span 107 = .ok (.getfield 50, 3) := by decide +kernel
theorem d_Mo_span_110 : decode b_Mo_span 110 = .ok (.aload_n 0, 1) := by decide +kernel
theorem d_Mo_span_111 : decode b_Mo_span 111 = .ok (.iload_n 1, 1) := by decide +kernel
theorem d_Mo_span_112 : decode b_Mo_span 112 = .ok (.invokevirtual 174, 3) := by decide +kernel
theorem d_Mo_span_115 : decode b_Mo_span 115 = .ok (.laload, 1) := by decide +kernel
theorem d_Mo_span_116 : decode b_Mo_span 116 = .ok (.lsub, 1) := by decide +kernel
theorem d_Mo_span_117 : decode b_Mo_span 117 = .ok (.lload 6, 2) := by decide +kernel
theorem d_Mo_span_119 : decode b_Mo_span 119 = .ok (.iload 5, 2) := by decide +kernel
theorem d_Mo_span_121 : decode b_Mo_span 121 = .ok (.invokestatic 151, 3) := by decide +kernel
theorem d_Mo_span_124 : decode b_Mo_span 124 = .ok (.lreturn, 1) := by decide +kernel
