theorem d_H_init_0 : decode b_H_init 0 = .ok (.aload_n 0, 1) := by decide +kernel
theorem d_H_init_1 : decode b_H_init 1 = .ok (.invokespecial 3, 3) := by decide +kernel
theorem d_H_init_4 : decode b_H_init 4 = .ok (.aload_n 0, 1) := by decide +kernel
theorem d_H_init_5 : decode b_H_init 5 = .ok (.new 9, 3) := by decide +kernel
theorem d_H_init_8 : decode b_H_init 8 = .ok (.dup, 1) := by decide +kernel
theorem d_H_init_9 : decode b_H_init 9 = .ok (.invokespecial 11, 3) := by decide +kernel
theorem d_H_init_12 : decode b_H_init 12 = .ok (.putfield 12, 3) := by decide +kernel
theorem d_H_init_15 : decode b_H_init 15 = .ok (.aload_n 0, 1) := by decide +kernel
theorem d_H_init_16 : decode b_H_init 16 = .ok (.new 16, 3) := by decide +kernel
theorem d_H_init_19 : decode b_H_init 19 = .ok (.dup, 1) := by decide +kernel
theorem d_H_init_20 : decode b_H_init 20 = .ok (.invokespecial 18, 3) := by decide +kernel
theorem d_H_init_23 : decode b_H_init 23 = .ok (.putfield 19, 3) := by decide +kernel
theorem d_H_init_26 : decode b_H_init 26 = .ok (.aload_n 0, 1) := by decide +kernel
theorem d_H_init_27 : decode b_H_init 27 = .ok (.new 23, 3) := by decide +kernel
theorem d_H_init_30 : decode b_H_init 30 = .ok (.dup, 1) := by decide +kernel
theorem d_H_init_31 : decode b_H_init 31 = .ok (.aload_n 0, 1) := by decide +kernel
theorem d_H_init_32 : decode b_H_init 32 = .ok (.getfield 12, 3) := by decide +kernel
theorem d_H_init_35 : decode b_H_init 35 = .ok (.aload_n 0, 1) := by decide +kernel
theorem d_H_init_36 : decode b_H_init 36 = .ok (.getfield 19, 3) := by decide +kernel
theorem d_H_init_39 : decode b_H_init 39 = .ok (.bipush 16, 2) := by decide +kernel
theorem d_H_init_41 : decode b_H_init 41 = .ok (.invokespecial 25, 3) := by decide +kernel
theorem d_H_init_44 : decode b_H_init 44 = .ok (.putfield 28, 3) := by decide +kernel
theorem d_H_init_47 : decode b_H_init 47 = .ok (.aload_n 0, 1) := by decide +kernel
theorem d_H_init_48 : decode b_H_init 48 = .ok (.new 23, 3) := by decide +kernel
theorem d_H_init_51 : decode b_H_init 51 = .ok (.dup, 1) := by decide +kernel
theorem d_H_init_52 : decode b_H_init 52 = .ok (.aload_n 0, 1) := by decide +kernel
theorem d_H_init_53 : decode b_H_init 53 = .ok (.getfield 12, 3) := by decide +kernel
theorem d_H_init_56 : decode b_H_init 56 = .ok (.aload_n 0, 1) := by decide +kernel
theorem d_H_init_57 : decode b_H_init 57 = .ok (.getfield 19, 3) := by decide +kernel
theorem d_H_init_60 : decode b_H_init 60 = .ok (.iconst 1, 1) := by decide +kernel
theorem d_H_init_61 : decode b_H_init 61 = .ok (.invokespecial 25, 3) := by decide +kernel
theorem d_H_init_64 : decode b_H_init 64 = .ok (.putfield 32, 3) := by decide +kernel
theorem d_H_init_67 : decode b_H_init 67 = .ok (.aload_n 0, 1) := by decide +kernel
theorem d_H_init_68 : decode b_H_init 68 = .ok (.new 35, 3) := by decide +kernel
theorem d_H_init_71 : decode b_H_init 71 = .ok (.dup, 1) := by decide +kernel
theorem d_H_init_72 : decode b_H_init 72 = .ok (.aload_n 0, 1) := by decide +kernel
theorem d_H_init_73 : decode b_H_init 73 = .ok (.getfield 12, 3) := by decide +kernel
theorem d_H_init_76 : decode b_H_init 76 = .ok (.aload_n 0, 1) := by decide +kernel
theorem d_H_init_77 : decode b_H_init 77 = .ok (.getfield 19, 3) := by decide +kernel
theorem d_H_init_80 : decode b_H_init 80 = .ok (.aload_n 0, 1) := by decide +kernel
theorem d_H_init_81 : decode b_H_init 81 = .ok (.getfield 28, 3) := by decide +kernel
theorem d_H_init_84 : decode b_H_init 84 = .ok (.invokespecial 37, 3) := by decide +kernel
theorem d_H_init_87 : decode b_H_init 87 = .ok (.putfield 40, 3) := by decide +kernel
theorem d_H_init_90 : decode b_H_init 90 = .ok (.aload_n 0, 1) := by decide +kernel
theorem d_H_init_91 : decode b_H_init 91 = .ok (.new 44, 3) := by decide +kernel
theorem d_H_init_94 : decode b_H_init 94 = .ok (.dup, 1) := by decide +kernel
theorem d_H_init_95 : decode b_H_init 95 = .ok (.aload_n 0, 1) := by decide +kernel
theorem d_H_init_96 : decode b_H_init 96 = .ok (.getfield 12, 3) := by decide +kernel
theorem d_H_init_99 : decode b_H_init 99 = .ok (.aload_n 0, 1) := by decide +kernel
theorem d_H_init_100 : decode b_H_init 100 = .ok (.getfield 19, 3) := by decide +kernel
theorem d_H_init_103 : decode b_H_init 103 = .ok (.aload_n 0, 1) := by decide +kernel
theorem d_H_init_104 : decode b_H_init 104 = .ok (.getfield 28, 3) := by decide +kernel
theorem d_H_init_107 : decode b_H_init 107 = .ok (.invokespecial 46, 3) := by decide +kernel
theorem d_H_init_110 : decode b_H_init 110 = .ok (.putfield 47, 3) := by decide +kernel
theorem d_H_init_113 : decode b_H_init 113 = .ok (.aload_n 0, 1) := by decide +kernel
theorem d_H_init_114 : decode b_H_init 114 = .ok (.new 51, 3) := by decide +kernel
theorem d_H_init_117 : decode b_H_init 117 = .ok (.dup, 1) := by decide +kernel
theorem d_H_init_118 : decode b_H_init 118 = .ok (.invokespecial 53, 3) := by decide +kernel
theorem d_H_init_121 : decode b_H_init 121 = .ok (.putfield 54, 3) := by decide +kernel
theorem d_H_init_124 : decode b_H_init 124 = .ok (.aload_n 0, 1) := by decide +kernel
theorem d_H_init_125 : decode b_H_init 125 = .ok (.new 58, 3) := by decide +kernel
theorem d_H_init_128 : decode b_H_init 128 = .ok (.dup, 1) := by decide +kernel
theorem d_H_init_129 : decode b_H_init 129 = .ok (.aload_n 0, 1) := by decide +kernel
theorem d_H_init_130 : decode b_H_init 130 = .ok (.getfield 12, 3) := by decide +kernel
theorem d_H_init_133 : decode b_H_init 133 = .ok (.aload_n 0, 1) := by decide +kernel
theorem d_H_init_134 : decode b_H_init 134 = .ok (.getfield 54, 3) := by decide +kernel
theorem d_H_init_137 : decode b_H_init 137 = .ok (.invokespecial 60, 3) := by decide +kernel
theorem d_H_init_140 : decode b_H_init 140 = .ok (.putfield 63, 3) := by decide +kernel
theorem d_H_init_143 : decode b_H_init 143 = .ok (.return_, 1) := by decide +kernel
theorem d_H_state_0 : decode b_H_state 0 = .ok (.aload_n 0, 1) := by decide +kernel
theorem d_H_state_1 : decode b_H_state 1 = .ok (.getfield 19, 3) := by decide +kernel
theorem d_H_state_4 : decode b_H_state 4 = .ok (.getfield 67, 3) := by decide +kernel
theorem d_H_state_7 : decode b_H_state 7 = .ok (.iconst 4, 1) := by decide +kernel
theorem d_H_state_8 : decode b_H_state 8 = .ok (.if_icmp .lt 6, 3) := by decide +kernel
theorem d_H_state_11 : decode b_H_state 11 = .ok (.bipush (-4), 2) := by decide +kernel
theorem d_H_state_13 : decode b_H_state 13 = .ok (.ireturn, 1) := by decide +kernel
theorem d_H_state_14 : decode b_H_state 14 = .ok (.aload_n 0, 1) := by decide +kernel
theorem d_H_state_15 : decode b_H_state 15 = .ok (.invokevirtual 71, 3) := by decide +kernel
theorem d_H_state_18 : decode b_H_state 18 = .ok (.aload_n 0, 1) := by decide +kernel
theorem d_H_state_19 : decode b_H_state 19 = .ok (.getfield 19, 3) := by decide +kernel
theorem d_H_state_22 : decode b_H_state 22 = .ok (.invokevirtual 74, 3) := by decide +kernel
theorem d_H_state_25 : decode b_H_state 25 = .ok (.ireturn, 1) := by decide +kernel
theorem d_H_forgetWays_0 : decode b_H_forgetWays 0 = .ok (.aload_n 0, 1) := by decide +kernel
theorem d_H_forgetWays_1 : decode b_H_forgetWays 1 = .ok (.getfield 28, 3) := by decide +kernel
theorem d_H_forgetWays_4 : decode b_H_forgetWays 4 = .ok (.iconst 0, 1) := by decide +kernel
theorem d_H_forgetWays_5 : decode b_H_forgetWays 5 = .ok (.putfield 195, 3) := by decide +kernel
theorem d_H_forgetWays_8 : decode b_H_forgetWays 8 = .ok (.aload_n 0, 1) := by decide +kernel
theorem d_H_forgetWays_9 : decode b_H_forgetWays 9 = .ok (.getfield 32, 3) := by decide +kernel
theorem d_H_forgetWays_12 : decode b_H_forgetWays 12 = .ok (.iconst 0, 1) := by decide +kernel
theorem d_H_forgetWays_13 : decode b_H_forgetWays 13 = .ok (.putfield 195, 3) := by decide +kernel
theorem d_H_forgetWays_16 : decode b_H_forgetWays 16 = .ok (.aload_n 0, 1) := by decide +kernel
theorem d_H_forgetWays_17 : decode b_H_forgetWays 17 = .ok (.getfield 40, 3) := by decide +kernel
theorem d_H_forgetWays_20 : decode b_H_forgetWays 20 = .ok (.iconst 0, 1) := by decide +kernel
theorem d_H_forgetWays_21 : decode b_H_forgetWays 21 = .ok (.putfield 196, 3) := by decide +kernel
theorem d_H_forgetWays_24 : decode b_H_forgetWays 24 = .ok (.aload_n 0, 1) := by decide +kernel
theorem d_H_forgetWays_25 : decode b_H_forgetWays 25 = .ok (.getfield 47, 3) := by decide +kernel
theorem d_H_forgetWays_28 : decode b_H_forgetWays 28 = .ok (.iconst 0, 1) := by decide +kernel
theorem d_H_forgetWays_29 : decode b_H_forgetWays 29 = .ok (.putfield 173, 3) := by decide +kernel
theorem d_H_forgetWays_32 : decode b_H_forgetWays 32 = .ok (.return_, 1) := by decide +kernel
theorem d_H_weight_0 : decode b_H_weight 0 = .ok (.aload_n 0, 1) := by decide +kernel
theorem d_H_weight_1 : decode b_H_weight 1 = .ok (.getfield 19, 3) := by decide +kernel
theorem d_H_weight_4 : decode b_H_weight 4 = .ok (.iload_n 1, 1) := by decide +kernel
theorem d_H_weight_5 : decode b_H_weight 5 = .ok (.invokevirtual 78, 3) := by decide +kernel
theorem d_H_weight_8 : decode b_H_weight 8 = .ok (.ifCond .eq 13, 3) := by decide +kernel
theorem d_H_weight_11 : decode b_H_weight 11 = .ok (.iload_n 2, 1) := by decide +kernel
theorem d_H_weight_12 : decode b_H_weight 12 = .ok (.ifCond .lt 9, 3) := by decide +kernel
theorem d_H_weight_15 : decode b_H_weight 15 = .ok (.iload_n 2, 1) := by decide +kernel
theorem d_H_weight_16 : decode b_H_weight 16 = .ok (.bipush 9, 2) := by decide +kernel
theorem d_H_weight_18 : decode b_H_weight 18 = .ok (.if_icmp .lt 5, 3) := by decide +kernel
theorem d_H_weight_21 : decode b_H_weight 21 = .ok (.iconst (-1), 1) := by decide +kernel
theorem d_H_weight_22 : decode b_H_weight 22 = .ok (.ireturn, 1) := by decide +kernel
theorem d_H_weight_23 : decode b_H_weight 23 = .ok (.iload_n 3, 1) := by decide +kernel
theorem d_H_weight_24 : decode b_H_weight 24 = .ok (.invokestatic 82, 3) := by decide +kernel
theorem d_H_weight_27 : decode b_H_weight 27 = .ok (.ifCond .ne 6, 3) := by decide +kernel
theorem d_H_weight_30 : decode b_H_weight 30 = .ok (.bipush (-2), 2) := by decide +kernel
theorem d_H_weight_32 : decode b_H_weight 32 = .ok (.ireturn, 1) := by decide +kernel
theorem d_H_weight_33 : decode b_H_weight 33 = .ok (.aload_n 0, 1) := by decide +kernel
theorem d_H_weight_34 : decode b_H_weight 34 = .ok (.invokevirtual 71, 3) := by decide +kernel
theorem d_H_weight_37 : decode b_H_weight 37 = .ok (.aload_n 0, 1) := by decide +kernel
theorem d_H_weight_38 : decode b_H_weight 38 = .ok (.getfield 19, 3) := by decide +kernel
theorem d_H_weight_41 : decode b_H_weight 41 = .ok (.getfield 85, 3) := by decide +kernel
theorem d_H_weight_44 : decode b_H_weight 44 = .ok (.iload_n 1, 1) := by decide +kernel
theorem d_H_weight_45 : decode b_H_weight 45 = .ok (.aaload, 1) := by decide +kernel
theorem d_H_weight_46 : decode b_H_weight 46 = .ok (.iload_n 2, 1) := by decide +kernel
theorem d_H_weight_47 : decode b_H_weight 47 = .ok (.iaload, 1) := by decide +kernel
theorem d_H_weight_48 : decode b_H_weight 48 = .ok (.istore 4, 2) := by decide +kernel
theorem d_H_weight_50 : decode b_H_weight 50 = .ok (.aload_n 0, 1) := by decide +kernel
theorem d_H_weight_51 : decode b_H_weight 51 = .ok (.getfield 19, 3) := by decide +kernel
theorem d_H_weight_54 : decode b_H_weight 54 = .ok (.getfield 85, 3) := by decide +kernel
theorem d_H_weight_57 : decode b_H_weight 57 = .ok (.iload_n 1, 1) := by decide +kernel
theorem d_H_weight_58 : decode b_H_weight 58 = .ok (.aaload, 1) := by decide +kernel
theorem d_H_weight_59 : decode b_H_weight 59 = .ok (.iload_n 2, 1) := by decide +kernel
theorem d_H_weight_60 : decode b_H_weight 60 = .ok (.iload_n 3, 1) := by decide +kernel
theorem d_H_weight_61 : decode b_H_weight 61 = .ok (.iastore, 1) := by decide +kernel
theorem d_H_weight_62 : decode b_H_weight 62 = .ok (.iload 4, 2) := by decide +kernel
theorem d_H_weight_64 : decode b_H_weight 64 = .ok (.ireturn, 1) := by decide +kernel
theorem d_H_isWeight_0 : decode b_H_isWeight 0 = .ok (.iload_n 0, 1) := by decide +kernel
theorem d_H_isWeight_1 : decode b_H_isWeight 1 = .ok (.ifCond .lt 12, 3) := by decide +kernel
theorem d_H_isWeight_4 : decode b_H_isWeight 4 = .ok (.iload_n 0, 1) := by decide +kernel
theorem d_H_isWeight_5 : decode b_H_isWeight 5 = .ok (.iconst 4, 1) := by decide +kernel
theorem d_H_isWeight_6 : decode b_H_isWeight 6 = .ok (.if_icmp .gt 7, 3) := by decide +kernel
theorem d_H_isWeight_9 : decode b_H_isWeight 9 = .ok (.iconst 1, 1) := by decide +kernel
theorem d_H_isWeight_10 : decode b_H_isWeight 10 = .ok (.goto 4, 3) := by decide +kernel
theorem d_H_isWeight_13 : decode b_H_isWeight 13 = .ok (.iconst 0, 1) := by decide +kernel
theorem d_H_isWeight_14 : decode b_H_isWeight 14 = .ok (.ireturn, 1) := by decide +kernel
theorem d_H_move_0 : decode b_H_move 0 = .ok (.aload_n 0, 1) := by decide +kernel
theorem d_H_move_1 : decode b_H_move 1 = .ok (.getfield 19, 3) := by decide +kernel
theorem d_H_move_4 : decode b_H_move 4 = .ok (.iload_n 1, 1) := by decide +kernel
theorem d_H_move_5 : decode b_H_move 5 = .ok (.invokevirtual 78, 3) := by decide +kernel
theorem d_H_move_8 : decode b_H_move 8 = .ok (.ifCond .eq 14, 3) := by decide +kernel
theorem d_H_move_11 : decode b_H_move 11 = .ok (.aload_n 0, 1) := by decide +kernel
theorem d_H_move_12 : decode b_H_move 12 = .ok (.getfield 19, 3) := by decide +kernel
theorem d_H_move_15 : decode b_H_move 15 = .ok (.iload_n 2, 1) := by decide +kernel
theorem d_H_move_16 : decode b_H_move 16 = .ok (.invokevirtual 78, 3) := by decide +kernel
theorem d_H_move_19 : decode b_H_move 19 = .ok (.ifCond .ne 5, 3) := by decide +kernel
theorem d_H_move_22 : decode b_H_move 22 = .ok (.iconst (-1), 1) := by decide +kernel
theorem d_H_move_23 : decode b_H_move 23 = .ok (.ireturn, 1) := by decide +kernel
theorem d_H_move_24 : decode b_H_move 24 = .ok (.iload_n 3, 1) := by decide +kernel
theorem d_H_move_25 : decode b_H_move 25 = .ok (.invokestatic 82, 3) := by decide +kernel
theorem d_H_move_28 : decode b_H_move 28 = .ok (.ifCond .ne 6, 3) := by decide +kernel
theorem d_H_move_31 : decode b_H_move 31 = .ok (.bipush (-2), 2) := by decide +kernel
theorem d_H_move_33 : decode b_H_move 33 = .ok (.ireturn, 1) := by decide +kernel
theorem d_H_move_34 : decode b_H_move 34 = .ok (.aload_n 0, 1) := by decide +kernel
theorem d_H_move_35 : decode b_H_move 35 = .ok (.invokevirtual 71, 3) := by decide +kernel
theorem d_H_move_38 : decode b_H_move 38 = .ok (.aload_n 0, 1) := by decide +kernel
theorem d_H_move_39 : decode b_H_move 39 = .ok (.getfield 19, 3) := by decide +kernel
theorem d_H_move_42 : decode b_H_move 42 = .ok (.getfield 89, 3) := by decide +kernel
theorem d_H_move_45 : decode b_H_move 45 = .ok (.iload_n 1, 1) := by decide +kernel
theorem d_H_move_46 : decode b_H_move 46 = .ok (.aaload, 1) := by decide +kernel
theorem d_H_move_47 : decode b_H_move 47 = .ok (.iload_n 2, 1) := by decide +kernel
theorem d_H_move_48 : decode b_H_move 48 = .ok (.iaload, 1) := by decide +kernel
theorem d_H_move_49 : decode b_H_move 49 = .ok (.istore 4, 2) := by decide +kernel
theorem d_H_move_51 : decode b_H_move 51 = .ok (.aload_n 0, 1) := by decide +kernel
theorem d_H_move_52 : decode b_H_move 52 = .ok (.getfield 19, 3) := by decide +kernel
theorem d_H_move_55 : decode b_H_move 55 = .ok (.getfield 89, 3) := by decide +kernel
theorem d_H_move_58 : decode b_H_move 58 = .ok (.iload_n 1, 1) := by decide +kernel
theorem d_H_move_59 : decode b_H_move 59 = .ok (.aaload, 1) := by decide +kernel
theorem d_H_move_60 : decode b_H_move 60 = .ok (.iload_n 2, 1) := by decide +kernel
theorem d_H_move_61 : decode b_H_move 61 = .ok (.iload_n 3, 1) := by decide +kernel
theorem d_H_move_62 : decode b_H_move 62 = .ok (.iastore, 1) := by decide +kernel
theorem d_H_move_63 : decode b_H_move 63 = .ok (.iload 4, 2) := by decide +kernel
theorem d_H_move_65 : decode b_H_move 65 = .ok (.ireturn, 1) := by decide +kernel
theorem d_H_kind_0 : decode b_H_kind 0 = .ok (.aload_n 0, 1) := by decide +kernel
theorem d_H_kind_1 : decode b_H_kind 1 = .ok (.getfield 54, 3) := by decide +kernel
theorem d_H_kind_4 : decode b_H_kind 4 = .ok (.getfield 92, 3) := by decide +kernel
theorem d_H_kind_7 : decode b_H_kind 7 = .ok (.iconst 4, 1) := by decide +kernel
theorem d_H_kind_8 : decode b_H_kind 8 = .ok (.if_icmp .lt 6, 3) := by decide +kernel
theorem d_H_kind_11 : decode b_H_kind 11 = .ok (.bipush (-4), 2) := by decide +kernel
theorem d_H_kind_13 : decode b_H_kind 13 = .ok (.ireturn, 1) := by decide +kernel
theorem d_H_kind_14 : decode b_H_kind 14 = .ok (.aload_n 0, 1) := by decide +kernel
theorem d_H_kind_15 : decode b_H_kind 15 = .ok (.invokevirtual 93, 3) := by decide +kernel
theorem d_H_kind_18 : decode b_H_kind 18 = .ok (.aload_n 0, 1) := by decide +kernel
theorem d_H_kind_19 : decode b_H_kind 19 = .ok (.getfield 54, 3) := by decide +kernel
theorem d_H_kind_22 : decode b_H_kind 22 = .ok (.dup, 1) := by decide +kernel
theorem d_H_kind_23 : decode b_H_kind 23 = .ok (.getfield 92, 3) := by decide +kernel
theorem d_H_kind_26 : decode b_H_kind 26 = .ok (.iconst 1, 1) := by decide +kernel
theorem d_H_kind_27 : decode b_H_kind 27 = .ok (.iadd, 1) := by decide +kernel
theorem d_H_kind_28 : decode b_H_kind 28 = .ok (.putfield 92, 3) := by decide +kernel
theorem d_H_kind_31 : decode b_H_kind 31 = .ok (.aload_n 0, 1) := by decide +kernel
theorem d_H_kind_32 : decode b_H_kind 32 = .ok (.getfield 54, 3) := by decide +kernel
theorem d_H_kind_35 : decode b_H_kind 35 = .ok (.getfield 92, 3) := by decide +kernel
theorem d_H_kind_38 : decode b_H_kind 38 = .ok (.iconst 1, 1) := by decide +kernel
theorem d_H_kind_39 : decode b_H_kind 39 = .ok (.isub, 1) := by decide +kernel
theorem d_H_kind_40 : decode b_H_kind 40 = .ok (.ireturn, 1) := by decide +kernel
theorem d_H_forgetTrees_0 : decode b_H_forgetTrees 0 = .ok (.aload_n 0, 1) := by decide +kernel
theorem d_H_forgetTrees_1 : decode b_H_forgetTrees 1 = .ok (.getfield 63, 3) := by decide +kernel
theorem d_H_forgetTrees_4 : decode b_H_forgetTrees 4 = .ok (.iconst 0, 1) := by decide +kernel
theorem d_H_forgetTrees_5 : decode b_H_forgetTrees 5 = .ok (.putfield 197, 3) := by decide +kernel
theorem d_H_forgetTrees_8 : decode b_H_forgetTrees 8 = .ok (.return_, 1) := by decide +kernel
theorem d_H_rule_0 : decode b_H_rule 0 = .ok (.aload_n 0, 1) := by decide +kernel
theorem d_H_rule_1 : decode b_H_rule 1 = .ok (.getfield 54, 3) := by decide +kernel
theorem d_H_rule_4 : decode b_H_rule 4 = .ok (.iload_n 1, 1) := by decide +kernel
theorem d_H_rule_5 : decode b_H_rule 5 = .ok (.invokevirtual 96, 3) := by decide +kernel
theorem d_H_rule_8 : decode b_H_rule 8 = .ok (.ifCond .eq 25, 3) := by decide +kernel
theorem d_H_rule_11 : decode b_H_rule 11 = .ok (.aload_n 0, 1) := by decide +kernel
theorem d_H_rule_12 : decode b_H_rule 12 = .ok (.getfield 54, 3) := by decide +kernel
theorem d_H_rule_15 : decode b_H_rule 15 = .ok (.iload_n 2, 1) := by decide +kernel
theorem d_H_rule_16 : decode b_H_rule 16 = .ok (.invokevirtual 96, 3) := by decide +kernel
theorem d_H_rule_19 : decode b_H_rule 19 = .ok (.ifCond .eq 14, 3) := by decide +kernel
theorem d_H_rule_22 : decode b_H_rule 22 = .ok (.aload_n 0, 1) := by decide +kernel
theorem d_H_rule_23 : decode b_H_rule 23 = .ok (.getfield 54, 3) := by decide +kernel
theorem d_H_rule_26 : decode b_H_rule 26 = .ok (.iload_n 3, 1) := by decide +kernel
theorem d_H_rule_27 : decode b_H_rule 27 = .ok (.invokevirtual 96, 3) := by decide +kernel
theorem d_H_rule_30 : decode b_H_rule 30 = .ok (.ifCond .ne 5, 3) := by decide +kernel
theorem d_H_rule_33 : decode b_H_rule 33 = .ok (.iconst (-1), 1) := by decide +kernel
theorem d_H_rule_34 : decode b_H_rule 34 = .ok (.ireturn, 1) := by decide +kernel
theorem d_H_rule_35 : decode b_H_rule 35 = .ok (.iload 4, 2) := by decide +kernel
theorem d_H_rule_37 : decode b_H_rule 37 = .ok (.invokestatic 82, 3) := by decide +kernel
theorem d_H_rule_40 : decode b_H_rule 40 = .ok (.ifCond .ne 6, 3) := by decide +kernel
theorem d_H_rule_43 : decode b_H_rule 43 = .ok (.bipush (-2), 2) := by decide +kernel
theorem d_H_rule_45 : decode b_H_rule 45 = .ok (.ireturn, 1) := by decide +kernel
theorem d_H_rule_46 : decode b_H_rule 46 = .ok (.aload_n 0, 1) := by decide +kernel
theorem d_H_rule_47 : decode b_H_rule 47 = .ok (.invokevirtual 93, 3) := by decide +kernel
theorem d_H_rule_50 : decode b_H_rule 50 = .ok (.iload_n 2, 1) := by decide +kernel
theorem d_H_rule_51 : decode b_H_rule 51 = .ok (.iload_n 3, 1) := by decide +kernel
theorem d_H_rule_52 : decode b_H_rule 52 = .ok (.invokestatic 97, 3) := by decide +kernel
theorem d_H_rule_55 : decode b_H_rule 55 = .ok (.istore 5, 2) := by decide +kernel
theorem d_H_rule_57 : decode b_H_rule 57 = .ok (.aload_n 0, 1) := by decide +kernel
theorem d_H_rule_58 : decode b_H_rule 58 = .ok (.getfield 54, 3) := by decide +kernel
theorem d_H_rule_61 : decode b_H_rule 61 = .ok (.getfield 101, 3) := by decide +kernel
theorem d_H_rule_64 : decode b_H_rule 64 = .ok (.iload_n 1, 1) := by decide +kernel
theorem d_H_rule_65 : decode b_H_rule 65 = .ok (.aaload, 1) := by decide +kernel
theorem d_H_rule_66 : decode b_H_rule 66 = .ok (.iload 5, 2) := by decide +kernel
theorem d_H_rule_68 : decode b_H_rule 68 = .ok (.iaload, 1) := by decide +kernel
theorem d_H_rule_69 : decode b_H_rule 69 = .ok (.istore 6, 2) := by decide +kernel
theorem d_H_rule_71 : decode b_H_rule 71 = .ok (.aload_n 0, 1) := by decide +kernel
theorem d_H_rule_72 : decode b_H_rule 72 = .ok (.getfield 54, 3) := by decide +kernel
theorem d_H_rule_75 : decode b_H_rule 75 = .ok (.getfield 101, 3) := by decide +kernel
theorem d_H_rule_78 : decode b_H_rule 78 = .ok (.iload_n 1, 1) := by decide +kernel
theorem d_H_rule_79 : decode b_H_rule 79 = .ok (.aaload, 1) := by decide +kernel
theorem d_H_rule_80 : decode b_H_rule 80 = .ok (.iload 5, 2) := by decide +kernel
theorem d_H_rule_82 : decode b_H_rule 82 = .ok (.iload 4, 2) := by decide +kernel
theorem d_H_rule_84 : decode b_H_rule 84 = .ok (.iastore, 1) := by decide +kernel
theorem d_H_rule_85 : decode b_H_rule 85 = .ok (.iload 6, 2) := by decide +kernel
theorem d_H_rule_87 : decode b_H_rule 87 = .ok (.ireturn, 1) := by decide +kernel
theorem d_H_leaf_0 : decode b_H_leaf 0 = .ok (.aload_n 0, 1) := by decide +kernel
theorem d_H_leaf_1 : decode b_H_leaf 1 = .ok (.getfield 54, 3) := by decide +kernel
theorem d_H_leaf_4 : decode b_H_leaf 4 = .ok (.iload_n 1, 1) := by decide +kernel
theorem d_H_leaf_5 : decode b_H_leaf 5 = .ok (.invokevirtual 96, 3) := by decide +kernel
theorem d_H_leaf_8 : decode b_H_leaf 8 = .ok (.ifCond .eq 12, 3) := by decide +kernel
theorem d_H_leaf_11 : decode b_H_leaf 11 = .ok (.iload_n 2, 1) := by decide +kernel
theorem d_H_leaf_12 : decode b_H_leaf 12 = .ok (.ifCond .lt 8, 3) := by decide +kernel
theorem d_H_leaf_15 : decode b_H_leaf 15 = .ok (.iload_n 2, 1) := by decide +kernel
theorem d_H_leaf_16 : decode b_H_leaf 16 = .ok (.iconst 4, 1) := by decide +kernel
theorem d_H_leaf_17 : decode b_H_leaf 17 = .ok (.if_icmp .lt 5, 3) := by decide +kernel
theorem d_H_leaf_20 : decode b_H_leaf 20 = .ok (.iconst (-1), 1) := by decide +kernel
theorem d_H_leaf_21 : decode b_H_leaf 21 = .ok (.ireturn, 1) := by decide +kernel
theorem d_H_leaf_22 : decode b_H_leaf 22 = .ok (.iload_n 3, 1) := by decide +kernel
theorem d_H_leaf_23 : decode b_H_leaf 23 = .ok (.invokestatic 82, 3) := by decide +kernel
theorem d_H_leaf_26 : decode b_H_leaf 26 = .ok (.ifCond .ne 6, 3) := by decide +kernel
theorem d_H_leaf_29 : decode b_H_leaf 29 = .ok (.bipush (-2), 2) := by decide +kernel
theorem d_H_leaf_31 : decode b_H_leaf 31 = .ok (.ireturn, 1) := by decide +kernel
theorem d_H_leaf_32 : decode b_H_leaf 32 = .ok (.aload_n 0, 1) := by decide +kernel
theorem d_H_leaf_33 : decode b_H_leaf 33 = .ok (.invokevirtual 93, 3) := by decide +kernel
theorem d_H_leaf_36 : decode b_H_leaf 36 = .ok (.aload_n 0, 1) := by decide +kernel
theorem d_H_leaf_37 : decode b_H_leaf 37 = .ok (.getfield 54, 3) := by decide +kernel
theorem d_H_leaf_40 : decode b_H_leaf 40 = .ok (.getfield 104, 3) := by decide +kernel
theorem d_H_leaf_43 : decode b_H_leaf 43 = .ok (.iload_n 1, 1) := by decide +kernel
theorem d_H_leaf_44 : decode b_H_leaf 44 = .ok (.aaload, 1) := by decide +kernel
theorem d_H_leaf_45 : decode b_H_leaf 45 = .ok (.iload_n 2, 1) := by decide +kernel
theorem d_H_leaf_46 : decode b_H_leaf 46 = .ok (.iaload, 1) := by decide +kernel
theorem d_H_leaf_47 : decode b_H_leaf 47 = .ok (.istore 4, 2) := by decide +kernel
theorem d_H_leaf_49 : decode b_H_leaf 49 = .ok (.aload_n 0, 1) := by decide +kernel
theorem d_H_leaf_50 : decode b_H_leaf 50 = .ok (.getfield 54, 3) := by decide +kernel
theorem d_H_leaf_53 : decode b_H_leaf 53 = .ok (.getfield 104, 3) := by decide +kernel
theorem d_H_leaf_56 : decode b_H_leaf 56 = .ok (.iload_n 1, 1) := by decide +kernel
theorem d_H_leaf_57 : decode b_H_leaf 57 = .ok (.aaload, 1) := by decide +kernel
theorem d_H_leaf_58 : decode b_H_leaf 58 = .ok (.iload_n 2, 1) := by decide +kernel
theorem d_H_leaf_59 : decode b_H_leaf 59 = .ok (.iload_n 3, 1) := by decide +kernel
theorem d_H_leaf_60 : decode b_H_leaf 60 = .ok (.iastore, 1) := by decide +kernel
theorem d_H_leaf_61 : decode b_H_leaf 61 = .ok (.iload 4, 2) := by decide +kernel
theorem d_H_leaf_63 : decode b_H_leaf 63 = .ok (.ireturn, 1) := by decide +kernel
theorem d_H_sign_0 : decode b_H_sign 0 = .ok (.iload_n 1, 1) := by decide +kernel
theorem d_H_sign_1 : decode b_H_sign 1 = .ok (.iconst (-1), 1) := by decide +kernel
theorem d_H_sign_2 : decode b_H_sign 2 = .ok (.if_icmp .lt 8, 3) := by decide +kernel
theorem d_H_sign_5 : decode b_H_sign 5 = .ok (.iload_n 1, 1) := by decide +kernel
theorem d_H_sign_6 : decode b_H_sign 6 = .ok (.iconst 4, 1) := by decide +kernel
theorem d_H_sign_7 : decode b_H_sign 7 = .ok (.if_icmp .lt 6, 3) := by decide +kernel
theorem d_H_sign_10 : decode b_H_sign 10 = .ok (.bipush (-2), 2) := by decide +kernel
theorem d_H_sign_12 : decode b_H_sign 12 = .ok (.ireturn, 1) := by decide +kernel
theorem d_H_sign_13 : decode b_H_sign 13 = .ok (.aload_n 0, 1) := by decide +kernel
theorem d_H_sign_14 : decode b_H_sign 14 = .ok (.getfield 12, 3) := by decide +kernel
theorem d_H_sign_17 : decode b_H_sign 17 = .ok (.getfield 107, 3) := by decide +kernel
theorem d_H_sign_20 : decode b_H_sign 20 = .ok (.bipush 6, 2) := by decide +kernel
theorem d_H_sign_22 : decode b_H_sign 22 = .ok (.if_icmp .lt 6, 3) := by decide +kernel
theorem d_H_sign_25 : decode b_H_sign 25 = .ok (.bipush (-4), 2) := by decide +kernel
theorem d_H_sign_27 : decode b_H_sign 27 = .ok (.ireturn, 1) := by decide +kernel
theorem d_H_sign_28 : decode b_H_sign 28 = .ok (.aload_n 0, 1) := by decide +kernel
theorem d_H_sign_29 : decode b_H_sign 29 = .ok (.invokevirtual 71, 3) := by decide +kernel
theorem d_H_sign_32 : decode b_H_sign 32 = .ok (.aload_n 0, 1) := by decide +kernel
theorem d_H_sign_33 : decode b_H_sign 33 = .ok (.invokevirtual 93, 3) := by decide +kernel
theorem d_H_sign_36 : decode b_H_sign 36 = .ok (.aload_n 0, 1) := by decide +kernel
theorem d_H_sign_37 : decode b_H_sign 37 = .ok (.getfield 12, 3) := by decide +kernel
theorem d_H_sign_40 : decode b_H_sign 40 = .ok (.iload_n 1, 1) := by decide +kernel
theorem d_H_sign_41 : decode b_H_sign 41 = .ok (.invokevirtual 110, 3) := by decide +kernel
theorem d_H_sign_44 : decode b_H_sign 44 = .ok (.aload_n 0, 1) := by decide +kernel
theorem d_H_sign_45 : decode b_H_sign 45 = .ok (.getfield 12, 3) := by decide +kernel
theorem d_H_sign_48 : decode b_H_sign 48 = .ok (.getfield 107, 3) := by decide +kernel
theorem d_H_sign_51 : decode b_H_sign 51 = .ok (.ireturn, 1) := by decide +kernel
theorem d_H_clear_0 : decode b_H_clear 0 = .ok (.aload_n 0, 1) := by decide +kernel
theorem d_H_clear_1 : decode b_H_clear 1 = .ok (.invokevirtual 71, 3) := by decide +kernel
theorem d_H_clear_4 : decode b_H_clear 4 = .ok (.aload_n 0, 1) := by decide +kernel
theorem d_H_clear_5 : decode b_H_clear 5 = .ok (.invokevirtual 93, 3) := by decide +kernel
theorem d_H_clear_8 : decode b_H_clear 8 = .ok (.aload_n 0, 1) := by decide +kernel
theorem d_H_clear_9 : decode b_H_clear 9 = .ok (.getfield 12, 3) := by decide +kernel
theorem d_H_clear_12 : decode b_H_clear 12 = .ok (.getfield 107, 3) := by decide +kernel
theorem d_H_clear_15 : decode b_H_clear 15 = .ok (.istore_n 1, 1) := by decide +kernel
theorem d_H_clear_16 : decode b_H_clear 16 = .ok (.aload_n 0, 1) := by decide +kernel
theorem d_H_clear_17 : decode b_H_clear 17 = .ok (.getfield 12, 3) := by decide +kernel
theorem d_H_clear_20 : decode b_H_clear 20 = .ok (.iconst 0, 1) := by decide +kernel
theorem d_H_clear_21 : decode b_H_clear 21 = .ok (.putfield 107, 3) := by decide +kernel
theorem d_H_clear_24 : decode b_H_clear 24 = .ok (.iload_n 1, 1) := by decide +kernel
theorem d_H_clear_25 : decode b_H_clear 25 = .ok (.ireturn, 1) := by decide +kernel
theorem d_H_hold_0 : decode b_H_hold 0 = .ok (.aload_n 0, 1) := by decide +kernel
theorem d_H_hold_1 : decode b_H_hold 1 = .ok (.getfield 12, 3) := by decide +kernel
theorem d_H_hold_4 : decode b_H_hold 4 = .ok (.iload_n 1, 1) := by decide +kernel
theorem d_H_hold_5 : decode b_H_hold 5 = .ok (.invokevirtual 114, 3) := by decide +kernel
theorem d_H_hold_8 : decode b_H_hold 8 = .ok (.ifCond .eq 19, 3) := by decide +kernel
theorem d_H_hold_11 : decode b_H_hold 11 = .ok (.iload_n 2, 1) := by decide +kernel
theorem d_H_hold_12 : decode b_H_hold 12 = .ok (.iconst (-1), 1) := by decide +kernel
theorem d_H_hold_13 : decode b_H_hold 13 = .ok (.if_icmp .eq 16, 3) := by decide +kernel
theorem d_H_hold_16 : decode b_H_hold 16 = .ok (.aload_n 0, 1) := by decide +kernel
theorem d_H_hold_17 : decode b_H_hold 17 = .ok (.getfield 19, 3) := by decide +kernel
theorem d_H_hold_20 : decode b_H_hold 20 = .ok (.iload_n 2, 1) := by decide +kernel
theorem d_H_hold_21 : decode b_H_hold 21 = .ok (.invokevirtual 78, 3) := by decide +kernel
theorem d_H_hold_24 : decode b_H_hold 24 = .ok (.ifCond .ne 5, 3) := by decide +kernel
theorem d_H_hold_27 : decode b_H_hold 27 = .ok (.iconst (-1), 1) := by decide +kernel
theorem d_H_hold_28 : decode b_H_hold 28 = .ok (.ireturn, 1) := by decide +kernel
theorem d_H_hold_29 : decode b_H_hold 29 = .ok (.aload_n 0, 1) := by decide +kernel
theorem d_H_hold_30 : decode b_H_hold 30 = .ok (.invokevirtual 71, 3) := by decide +kernel
theorem d_H_hold_33 : decode b_H_hold 33 = .ok (.aload_n 0, 1) := by decide +kernel
theorem d_H_hold_34 : decode b_H_hold 34 = .ok (.getfield 12, 3) := by decide +kernel
theorem d_H_hold_37 : decode b_H_hold 37 = .ok (.getfield 115, 3) := by decide +kernel
theorem d_H_hold_40 : decode b_H_hold 40 = .ok (.iload_n 1, 1) := by decide +kernel
theorem d_H_hold_41 : decode b_H_hold 41 = .ok (.iaload, 1) := by decide +kernel
theorem d_H_hold_42 : decode b_H_hold 42 = .ok (.istore_n 3, 1) := by decide +kernel
theorem d_H_hold_43 : decode b_H_hold 43 = .ok (.aload_n 0, 1) := by decide +kernel
theorem d_H_hold_44 : decode b_H_hold 44 = .ok (.getfield 12, 3) := by decide +kernel
theorem d_H_hold_47 : decode b_H_hold 47 = .ok (.getfield 115, 3) := by decide +kernel
theorem d_H_hold_50 : decode b_H_hold 50 = .ok (.iload_n 1, 1) := by decide +kernel
theorem d_H_hold_51 : decode b_H_hold 51 = .ok (.iload_n 2, 1) := by decide +kernel
theorem d_H_hold_52 : decode b_H_hold 52 = .ok (.iastore, 1) := by decide +kernel
theorem d_H_hold_53 : decode b_H_hold 53 = .ok (.iload_n 3, 1) := by decide +kernel
theorem d_H_hold_54 : decode b_H_hold 54 = .ok (.ireturn, 1) := by decide +kernel
theorem d_H_total_0 : decode b_H_total 0 = .ok (.aload_n 0, 1) := by decide +kernel
theorem d_H_total_1 : decode b_H_total 1 = .ok (.getfield 28, 3) := by decide +kernel
theorem d_H_total_4 : decode b_H_total 4 = .ok (.invokevirtual 119, 3) := by decide +kernel
theorem d_H_total_7 : decode b_H_total 7 = .ok (.lreturn, 1) := by decide +kernel
theorem d_H_ways_0 : decode b_H_ways 0 = .ok (.aload_n 0, 1) := by decide +kernel
theorem d_H_ways_1 : decode b_H_ways 1 = .ok (.getfield 32, 3) := by decide +kernel
theorem d_H_ways_4 : decode b_H_ways 4 = .ok (.invokevirtual 119, 3) := by decide +kernel
theorem d_H_ways_7 : decode b_H_ways 7 = .ok (.l2i, 1) := by decide +kernel
theorem d_H_ways_8 : decode b_H_ways 8 = .ok (.ireturn, 1) := by decide +kernel
theorem d_H_share_0 : decode b_H_share 0 = .ok (.aload_n 0, 1) := by decide +kernel
theorem d_H_share_1 : decode b_H_share 1 = .ok (.getfield 12, 3) := by decide +kernel
theorem d_H_share_4 : decode b_H_share 4 = .ok (.iload_n 1, 1) := by decide +kernel
theorem d_H_share_5 : decode b_H_share 5 = .ok (.invokevirtual 114, 3) := by decide +kernel
theorem d_H_share_8 : decode b_H_share 8 = .ok (.ifCond .eq 14, 3) := by decide +kernel
theorem d_H_share_11 : decode b_H_share 11 = .ok (.aload_n 0, 1) := by decide +kernel
theorem d_H_share_12 : decode b_H_share 12 = .ok (.getfield 19, 3) := by decide +kernel
theorem d_H_share_15 : decode b_H_share 15 = .ok (.iload_n 2, 1) := by decide +kernel
theorem d_H_share_16 : decode b_H_share 16 = .ok (.invokevirtual 78, 3) := by decide +kernel
theorem d_H_share_19 : decode b_H_share 19 = .ok (.ifCond .ne 7, 3) := by decide +kernel
theorem d_H_share_22 : decode b_H_share 22 = .ok (.ldc2_w 123, 3) := by decide +kernel
theorem d_H_share_25 : decode b_H_share 25 = .ok (.lreturn, 1) := by decide +kernel
theorem d_H_share_26 : decode b_H_share 26 = .ok (.iload_n 3, 1) := by decide +kernel
theorem d_H_share_27 : decode b_H_share 27 = .ok (.invokestatic 125, 3) := by decide +kernel
theorem d_H_share_30 : decode b_H_share 30 = .ok (.ifCond .ne 7, 3) := by decide +kernel
theorem d_H_share_33 : decode b_H_share 33 = .ok (.ldc2_w 128, 3) := by decide +kernel
theorem d_H_share_36 : decode b_H_share 36 = .ok (.lreturn, 1) := by decide +kernel
theorem d_H_share_37 : decode b_H_share 37 = .ok (.aload_n 0, 1) := by decide +kernel
theorem d_H_share_38 : decode b_H_share 38 = .ok (.getfield 28, 3) := by decide +kernel
theorem d_H_share_41 : decode b_H_share 41 = .ok (.iload_n 1, 1) := by decide +kernel
theorem d_H_share_42 : decode b_H_share 42 = .ok (.iload_n 2, 1) := by decide +kernel
theorem d_H_share_43 : decode b_H_share 43 = .ok (.invokevirtual 130, 3) := by decide +kernel
theorem d_H_share_46 : decode b_H_share 46 = .ok (.aload_n 0, 1) := by decide +kernel
theorem d_H_share_47 : decode b_H_share 47 = .ok (.getfield 28, 3) := by decide +kernel
theorem d_H_share_50 : decode b_H_share 50 = .ok (.invokevirtual 119, 3) := by decide +kernel
theorem d_H_share_53 : decode b_H_share 53 = .ok (.iload_n 3, 1) := by decide +kernel
theorem d_H_share_54 : decode b_H_share 54 = .ok (.invokestatic 134, 3) := by decide +kernel
theorem d_H_share_57 : decode b_H_share 57 = .ok (.lreturn, 1) := by decide +kernel
theorem d_H_isPart_0 : decode b_H_isPart 0 = .ok (.iload_n 0, 1) := by decide +kernel
theorem d_H_isPart_1 : decode b_H_isPart 1 = .ok (.ifCond .eq 8, 3) := by decide +kernel
theorem d_H_isPart_4 : decode b_H_isPart 4 = .ok (.iload_n 0, 1) := by decide +kernel
theorem d_H_isPart_5 : decode b_H_isPart 5 = .ok (.iconst 1, 1) := by decide +kernel
theorem d_H_isPart_6 : decode b_H_isPart 6 = .ok (.if_icmp .ne 7, 3) := by decide +kernel
theorem d_H_isPart_9 : decode b_H_isPart 9 = .ok (.iconst 1, 1) := by decide +kernel
theorem d_H_isPart_10 : decode b_H_isPart 10 = .ok (.goto 4, 3) := by decide +kernel
theorem d_H_isPart_13 : decode b_H_isPart 13 = .ok (.iconst 0, 1) := by decide +kernel
theorem d_H_isPart_14 : decode b_H_isPart 14 = .ok (.ireturn, 1) := by decide +kernel
theorem d_H_lowestTerms_0 : decode b_H_lowestTerms 0 = .ok (.lload_n 2, 1) := by decide +kernel
theorem d_H_lowestTerms_1 : decode b_H_lowestTerms 1 = .ok (.lconst 0, 1) := by decide +kernel
theorem d_H_lowestTerms_2 : decode b_H_lowestTerms 2 = .ok (.lcmp, 1) := by decide +kernel
theorem d_H_lowestTerms_3 : decode b_H_lowestTerms 3 = .ok (.ifCond .gt 7, 3) := by decide +kernel
theorem d_H_lowestTerms_6 : decode b_H_lowestTerms 6 = .ok (.ldc2_w 157, 3) := by decide +kernel
theorem d_H_lowestTerms_9 : decode b_H_lowestTerms 9 = .ok (.lreturn, 1) := by decide +kernel
theorem d_H_lowestTerms_10 : decode b_H_lowestTerms 10 = .ok (.lload_n 0, 1) := by decide +kernel
theorem d_H_lowestTerms_11 : decode b_H_lowestTerms 11 = .ok (.lload_n 2, 1) := by decide +kernel
theorem d_H_lowestTerms_12 : decode b_H_lowestTerms 12 = .ok (.invokestatic 198, 3) := by decide +kernel
theorem d_H_lowestTerms_15 : decode b_H_lowestTerms 15 = .ok (.lstore 5, 2) := by decide +kernel
theorem d_H_lowestTerms_17 : decode b_H_lowestTerms 17 = .ok (.lload 5, 2) := by decide +kernel
theorem d_H_lowestTerms_19 : decode b_H_lowestTerms 19 = .ok (.lconst 0, 1) := by decide +kernel
theorem d_H_lowestTerms_20 : decode b_H_lowestTerms 20 = .ok (.lcmp, 1) := by decide +kernel
theorem d_H_lowestTerms_21 : decode b_H_lowestTerms 21 = .ok (.ifCond .gt 7, 3) := by decide +kernel
theorem d_H_lowestTerms_24 : decode b_H_lowestTerms 24 = .ok (.ldc2_w 157, 3) := by decide +kernel
theorem d_H_lowestTerms_27 : decode b_H_lowestTerms 27 = .ok (.lreturn, 1) := by decide +kernel
theorem d_H_lowestTerms_28 : decode b_H_lowestTerms 28 = .ok (.iload 4, 2) := by decide +kernel
theorem d_H_lowestTerms_30 : decode b_H_lowestTerms 30 = .ok (.ifCond .ne 10, 3) := by decide +kernel
theorem d_H_lowestTerms_33 : decode b_H_lowestTerms 33 = .ok (.lload_n 0, 1) := by decide +kernel
theorem d_H_lowestTerms_34 : decode b_H_lowestTerms 34 = .ok (.lload 5, 2) := by decide +kernel
theorem d_H_lowestTerms_36 : decode b_H_lowestTerms 36 = .ok (.ldiv, 1) := by decide +kernel
theorem d_H_lowestTerms_37 : decode b_H_lowestTerms 37 = .ok (.goto 7, 3) := by decide +kernel
theorem d_H_lowestTerms_40 : decode b_H_lowestTerms 40 = .ok (.lload_n 2, 1) := by decide +kernel
theorem d_H_lowestTerms_41 : decode b_H_lowestTerms 41 = .ok (.lload 5, 2) := by decide +kernel
theorem d_H_lowestTerms_43 : decode b_H_lowestTerms 43 = .ok (.ldiv, 1) := by decide +kernel
theorem d_H_lowestTerms_44 : decode b_H_lowestTerms 44 = .ok (.lreturn, 1) := by decide +kernel
theorem d_H_commonDivisor_0 : decode b_H_commonDivisor 0 = .ok (.lload_n 0, 1) := by decide +kernel
theorem d_H_commonDivisor_1 : decode b_H_commonDivisor 1 = .ok (.lstore 4, 2) := by decide +kernel
theorem d_H_commonDivisor_3 : decode b_H_commonDivisor 3 = .ok (.lload_n 2, 1) := by decide +kernel
theorem d_H_commonDivisor_4 : decode b_H_commonDivisor 4 = .ok (.lstore 6, 2) := by decide +kernel
theorem d_H_commonDivisor_6 : decode b_H_commonDivisor 6 = .ok (.iconst 0, 1) := by decide +kernel
theorem d_H_commonDivisor_7 : decode b_H_commonDivisor 7 = .ok (.istore 8, 2) := by decide +kernel
theorem d_H_commonDivisor_9 : decode b_H_commonDivisor 9 = .ok (.iload 8, 2) := by decide +kernel
theorem d_H_commonDivisor_11 : decode b_H_commonDivisor 11 = .ok (.bipush 100, 2) := by decide +kernel
theorem d_H_commonDivisor_13 : decode b_H_commonDivisor 13 = .ok (.if_icmp .ge 31, 3) := by decide +kernel
theorem d_H_commonDivisor_16 : decode b_H_commonDivisor 16 = .ok (.lload 6, 2) := by decide +kernel
theorem d_H_commonDivisor_18 : decode b_H_commonDivisor 18 = .ok (.lconst 0, 1) := by decide +kernel
theorem d_H_commonDivisor_19 : decode b_H_commonDivisor 19 = .ok (.lcmp, 1) := by decide +kernel
theorem d_H_commonDivisor_20 : decode b_H_commonDivisor 20 = .ok (.ifCond .eq 24, 3) := by decide +kernel
theorem d_H_commonDivisor_23 : decode b_H_commonDivisor 23 = .ok (.lload 4, 2) := by decide +kernel
theorem d_H_commonDivisor_25 : decode b_H_commonDivisor 25 = .ok (.lload 6, 2) := by decide +kernel
theorem d_H_commonDivisor_27 : decode b_H_commonDivisor 27 = .ok (.lrem, 1) := by decide +kernel
theorem d_H_commonDivisor_28 : decode b_H_commonDivisor 28 = .ok (.lstore 9, 2) := by decide +kernel
theorem d_H_commonDivisor_30 : decode b_H_commonDivisor 30 = .ok (.lload 6, 2) := by decide +kernel
theorem d_H_commonDivisor_32 : decode b_H_commonDivisor 32 = .ok (.lstore 4, 2) := by decide +kernel
theorem d_H_commonDivisor_34 : decode b_H_commonDivisor 34 = .ok (.lload 9, 2) := by decide +kernel
theorem d_H_commonDivisor_36 : decode b_H_commonDivisor 36 = .ok (.lstore 6, 2) := by decide +kernel
theorem d_H_commonDivisor_38 : decode b_H_commonDivisor 38 = .ok (.iinc 8 1, 3) := by decide +kernel
theorem d_H_commonDivisor_41 : decode b_H_commonDivisor 41 = .ok (.goto (-32), 3) := by decide +kernel
theorem d_H_commonDivisor_44 : decode b_H_commonDivisor 44 = .ok (.lload 4, 2) := by decide +kernel
theorem d_H_commonDivisor_46 : decode b_H_commonDivisor 46 = .ok (.lreturn, 1) := by decide +kernel
theorem d_H_begin_0 : decode b_H_begin 0 = .ok (.aload_n 0, 1) := by decide +kernel
theorem d_H_begin_1 : decode b_H_begin 1 = .ok (.getfield 12, 3) := by decide +kernel
theorem d_H_begin_4 : decode b_H_begin 4 = .ok (.iload_n 1, 1) := by decide +kernel
theorem d_H_begin_5 : decode b_H_begin 5 = .ok (.invokevirtual 114, 3) := by decide +kernel
theorem d_H_begin_8 : decode b_H_begin 8 = .ok (.ifCond .eq 14, 3) := by decide +kernel
theorem d_H_begin_11 : decode b_H_begin 11 = .ok (.aload_n 0, 1) := by decide +kernel
theorem d_H_begin_12 : decode b_H_begin 12 = .ok (.getfield 19, 3) := by decide +kernel
theorem d_H_begin_15 : decode b_H_begin 15 = .ok (.iload_n 2, 1) := by decide +kernel
theorem d_H_begin_16 : decode b_H_begin 16 = .ok (.invokevirtual 78, 3) := by decide +kernel
theorem d_H_begin_19 : decode b_H_begin 19 = .ok (.ifCond .ne 7, 3) := by decide +kernel
theorem d_H_begin_22 : decode b_H_begin 22 = .ok (.ldc2_w 123, 3) := by decide +kernel
theorem d_H_begin_25 : decode b_H_begin 25 = .ok (.lreturn, 1) := by decide +kernel
theorem d_H_begin_26 : decode b_H_begin 26 = .ok (.iload_n 3, 1) := by decide +kernel
theorem d_H_begin_27 : decode b_H_begin 27 = .ok (.invokestatic 125, 3) := by decide +kernel
theorem d_H_begin_30 : decode b_H_begin 30 = .ok (.ifCond .ne 7, 3) := by decide +kernel
theorem d_H_begin_33 : decode b_H_begin 33 = .ok (.ldc2_w 128, 3) := by decide +kernel
theorem d_H_begin_36 : decode b_H_begin 36 = .ok (.lreturn, 1) := by decide +kernel
theorem d_H_begin_37 : decode b_H_begin 37 = .ok (.aload_n 0, 1) := by decide +kernel
theorem d_H_begin_38 : decode b_H_begin 38 = .ok (.getfield 28, 3) := by decide +kernel
theorem d_H_begin_41 : decode b_H_begin 41 = .ok (.iload_n 1, 1) := by decide +kernel
theorem d_H_begin_42 : decode b_H_begin 42 = .ok (.iload_n 2, 1) := by decide +kernel
theorem d_H_begin_43 : decode b_H_begin 43 = .ok (.invokevirtual 138, 3) := by decide +kernel
theorem d_H_begin_46 : decode b_H_begin 46 = .ok (.aload_n 0, 1) := by decide +kernel
theorem d_H_begin_47 : decode b_H_begin 47 = .ok (.getfield 28, 3) := by decide +kernel
theorem d_H_begin_50 : decode b_H_begin 50 = .ok (.invokevirtual 119, 3) := by decide +kernel
theorem d_H_begin_53 : decode b_H_begin 53 = .ok (.iload_n 3, 1) := by decide +kernel
theorem d_H_begin_54 : decode b_H_begin 54 = .ok (.invokestatic 134, 3) := by decide +kernel
theorem d_H_begin_57 : decode b_H_begin 57 = .ok (.lreturn, 1) := by decide +kernel
theorem d_H_pair_0 : decode b_H_pair 0 = .ok (.aload_n 0, 1) := by decide +kernel
theorem d_H_pair_1 : decode b_H_pair 1 = .ok (.getfield 12, 3) := by decide +kernel
theorem d_H_pair_4 : decode b_H_pair 4 = .ok (.iload_n 1, 1) := by decide +kernel
theorem d_H_pair_5 : decode b_H_pair 5 = .ok (.invokevirtual 114, 3) := by decide +kernel
theorem d_H_pair_8 : decode b_H_pair 8 = .ok (.ifCond .eq 38, 3) := by decide +kernel
theorem d_H_pair_11 : decode b_H_pair 11 = .ok (.iload_n 1, 1) := by decide +kernel
theorem d_H_pair_12 : decode b_H_pair 12 = .ok (.aload_n 0, 1) := by decide +kernel
theorem d_H_pair_13 : decode b_H_pair 13 = .ok (.getfield 12, 3) := by decide +kernel
theorem d_H_pair_16 : decode b_H_pair 16 = .ok (.getfield 107, 3) := by decide +kernel
theorem d_H_pair_19 : decode b_H_pair 19 = .ok (.iconst 1, 1) := by decide +kernel
theorem d_H_pair_20 : decode b_H_pair 20 = .ok (.isub, 1) := by decide +kernel
theorem d_H_pair_21 : decode b_H_pair 21 = .ok (.if_icmp .ge 25, 3) := by decide +kernel
theorem d_H_pair_24 : decode b_H_pair 24 = .ok (.aload_n 0, 1) := by decide +kernel
theorem d_H_pair_25 : decode b_H_pair 25 = .ok (.getfield 19, 3) := by decide +kernel
theorem d_H_pair_28 : decode b_H_pair 28 = .ok (.iload_n 2, 1) := by decide +kernel
theorem d_H_pair_29 : decode b_H_pair 29 = .ok (.invokevirtual 78, 3) := by decide +kernel
theorem d_H_pair_32 : decode b_H_pair 32 = .ok (.ifCond .eq 14, 3) := by decide +kernel
theorem d_H_pair_35 : decode b_H_pair 35 = .ok (.aload_n 0, 1) := by decide +kernel
theorem d_H_pair_36 : decode b_H_pair 36 = .ok (.getfield 19, 3) := by decide +kernel
theorem d_H_pair_39 : decode b_H_pair 39 = .ok (.iload_n 3, 1) := by decide +kernel
theorem d_H_pair_40 : decode b_H_pair 40 = .ok (.invokevirtual 78, 3) := by decide +kernel
theorem d_H_pair_43 : decode b_H_pair 43 = .ok (.ifCond .ne 7, 3) := by decide +kernel
theorem d_H_pair_46 : decode b_H_pair 46 = .ok (.ldc2_w 123, 3) := by decide +kernel
theorem d_H_pair_49 : decode b_H_pair 49 = .ok (.lreturn, 1) := by decide +kernel
theorem d_H_pair_50 : decode b_H_pair 50 = .ok (.iload 4, 2) := by decide +kernel
theorem d_H_pair_52 : decode b_H_pair 52 = .ok (.invokestatic 125, 3) := by decide +kernel
theorem d_H_pair_55 : decode b_H_pair 55 = .ok (.ifCond .ne 7, 3) := by decide +kernel
theorem d_H_pair_58 : decode b_H_pair 58 = .ok (.ldc2_w 128, 3) := by decide +kernel
theorem d_H_pair_61 : decode b_H_pair 61 = .ok (.lreturn, 1) := by decide +kernel
theorem d_H_pair_62 : decode b_H_pair 62 = .ok (.aload_n 0, 1) := by decide +kernel
theorem d_H_pair_63 : decode b_H_pair 63 = .ok (.getfield 28, 3) := by decide +kernel
theorem d_H_pair_66 : decode b_H_pair 66 = .ok (.iload_n 1, 1) := by decide +kernel
theorem d_H_pair_67 : decode b_H_pair 67 = .ok (.iconst 1, 1) := by decide +kernel
theorem d_H_pair_68 : decode b_H_pair 68 = .ok (.iadd, 1) := by decide +kernel
theorem d_H_pair_69 : decode b_H_pair 69 = .ok (.iload_n 2, 1) := by decide +kernel
theorem d_H_pair_70 : decode b_H_pair 70 = .ok (.iload_n 3, 1) := by decide +kernel
theorem d_H_pair_71 : decode b_H_pair 71 = .ok (.invokevirtual 141, 3) := by decide +kernel
theorem d_H_pair_74 : decode b_H_pair 74 = .ok (.aload_n 0, 1) := by decide +kernel
theorem d_H_pair_75 : decode b_H_pair 75 = .ok (.getfield 28, 3) := by decide +kernel
theorem d_H_pair_78 : decode b_H_pair 78 = .ok (.invokevirtual 119, 3) := by decide +kernel
theorem d_H_pair_81 : decode b_H_pair 81 = .ok (.iload 4, 2) := by decide +kernel
theorem d_H_pair_83 : decode b_H_pair 83 = .ok (.invokestatic 134, 3) := by decide +kernel
theorem d_H_pair_86 : decode b_H_pair 86 = .ok (.lreturn, 1) := by decide +kernel
theorem d_H_top_0 : decode b_H_top 0 = .ok (.aload_n 0, 1) := by decide +kernel
theorem d_H_top_1 : decode b_H_top 1 = .ok (.getfield 12, 3) := by decide +kernel
theorem d_H_top_4 : decode b_H_top 4 = .ok (.iload_n 1, 1) := by decide +kernel
theorem d_H_top_5 : decode b_H_top 5 = .ok (.invokevirtual 114, 3) := by decide +kernel
theorem d_H_top_8 : decode b_H_top 8 = .ok (.ifCond .ne 5, 3) := by decide +kernel
theorem d_H_top_11 : decode b_H_top 11 = .ok (.iconst (-1), 1) := by decide +kernel
theorem d_H_top_12 : decode b_H_top 12 = .ok (.ireturn, 1) := by decide +kernel
theorem d_H_top_13 : decode b_H_top 13 = .ok (.aload_n 0, 1) := by decide +kernel
theorem d_H_top_14 : decode b_H_top 14 = .ok (.getfield 28, 3) := by decide +kernel
theorem d_H_top_17 : decode b_H_top 17 = .ok (.invokevirtual 119, 3) := by decide +kernel
theorem d_H_top_20 : decode b_H_top 20 = .ok (.lconst 0, 1) := by decide +kernel
theorem d_H_top_21 : decode b_H_top 21 = .ok (.lcmp, 1) := by decide +kernel
theorem d_H_top_22 : decode b_H_top 22 = .ok (.ifCond .gt 6, 3) := by decide +kernel
theorem d_H_top_25 : decode b_H_top 25 = .ok (.bipush (-3), 2) := by decide +kernel
theorem d_H_top_27 : decode b_H_top 27 = .ok (.ireturn, 1) := by decide +kernel
theorem d_H_top_28 : decode b_H_top 28 = .ok (.iconst 0, 1) := by decide +kernel
theorem d_H_top_29 : decode b_H_top 29 = .ok (.istore_n 2, 1) := by decide +kernel
theorem d_H_top_30 : decode b_H_top 30 = .ok (.iconst 1, 1) := by decide +kernel
theorem d_H_top_31 : decode b_H_top 31 = .ok (.istore_n 3, 1) := by decide +kernel
theorem d_H_top_32 : decode b_H_top 32 = .ok (.iload_n 3, 1) := by decide +kernel
theorem d_H_top_33 : decode b_H_top 33 = .ok (.aload_n 0, 1) := by decide +kernel
theorem d_H_top_34 : decode b_H_top 34 = .ok (.getfield 19, 3) := by decide +kernel
theorem d_H_top_37 : decode b_H_top 37 = .ok (.getfield 67, 3) := by decide +kernel
theorem d_H_top_40 : decode b_H_top 40 = .ok (.if_icmp .ge 33, 3) := by decide +kernel
theorem d_H_top_43 : decode b_H_top 43 = .ok (.aload_n 0, 1) := by decide +kernel
theorem d_H_top_44 : decode b_H_top 44 = .ok (.getfield 28, 3) := by decide +kernel
theorem d_H_top_47 : decode b_H_top 47 = .ok (.iload_n 1, 1) := by decide +kernel
theorem d_H_top_48 : decode b_H_top 48 = .ok (.iload_n 3, 1) := by decide +kernel
theorem d_H_top_49 : decode b_H_top 49 = .ok (.invokevirtual 130, 3) := by decide +kernel
theorem d_H_top_52 : decode b_H_top 52 = .ok (.aload_n 0, 1) := by decide +kernel
theorem d_H_top_53 : decode b_H_top 53 = .ok (.getfield 28, 3) := by decide +kernel
theorem d_H_top_56 : decode b_H_top 56 = .ok (.iload_n 1, 1) := by decide +kernel
theorem d_H_top_57 : decode b_H_top 57 = .ok (.iload_n 2, 1) := by decide +kernel
theorem d_H_top_58 : decode b_H_top 58 = .ok (.invokevirtual 130, 3) := by decide +kernel
theorem d_H_top_61 : decode b_H_top 61 = .ok (.lcmp, 1) := by decide +kernel
theorem d_H_top_62 : decode b_H_top 62 = .ok (.ifCond .le 5, 3) := by decide +kernel
theorem d_H_top_65 : decode b_H_top 65 = .ok (.iload_n 3, 1) := by decide +kernel
theorem d_H_top_66 : decode b_H_top 66 = .ok (.istore_n 2, 1) := by decide +kernel
theorem d_H_top_67 : decode b_H_top 67 = .ok (.iinc 3 1, 3) := by decide +kernel
theorem d_H_top_70 : decode b_H_top 70 = .ok (.goto (-38), 3) := by decide +kernel
theorem d_H_top_73 : decode b_H_top 73 = .ok (.iload_n 2, 1) := by decide +kernel
theorem d_H_top_74 : decode b_H_top 74 = .ok (.ireturn, 1) := by decide +kernel
theorem d_H_best_0 : decode b_H_best 0 = .ok (.iload_n 1, 1) := by decide +kernel
theorem d_H_best_1 : decode b_H_best 1 = .ok (.ifCond .lt 9, 3) := by decide +kernel
theorem d_H_best_4 : decode b_H_best 4 = .ok (.iload_n 1, 1) := by decide +kernel
theorem d_H_best_5 : decode b_H_best 5 = .ok (.bipush 10, 2) := by decide +kernel
theorem d_H_best_7 : decode b_H_best 7 = .ok (.if_icmp .lt 7, 3) := by decide +kernel
theorem d_H_best_10 : decode b_H_best 10 = .ok (.ldc2_w 128, 3) := by decide +kernel
theorem d_H_best_13 : decode b_H_best 13 = .ok (.lreturn, 1) := by decide +kernel
theorem d_H_best_14 : decode b_H_best 14 = .ok (.aload_n 0, 1) := by decide +kernel
theorem d_H_best_15 : decode b_H_best 15 = .ok (.getfield 40, 3) := by decide +kernel
theorem d_H_best_18 : decode b_H_best 18 = .ok (.invokevirtual 145, 3) := by decide +kernel
theorem d_H_best_21 : decode b_H_best 21 = .ok (.astore_n 2, 1) := by decide +kernel
theorem d_H_best_22 : decode b_H_best 22 = .ok (.iload_n 1, 1) := by decide +kernel
theorem d_H_best_23 : decode b_H_best 23 = .ok (.aload_n 2, 1) := by decide +kernel
theorem d_H_best_24 : decode b_H_best 24 = .ok (.getfield 149, 3) := by decide +kernel
theorem d_H_best_27 : decode b_H_best 27 = .ok (.if_icmp .ge 12, 3) := by decide +kernel
theorem d_H_best_30 : decode b_H_best 30 = .ok (.aload_n 2, 1) := by decide +kernel
theorem d_H_best_31 : decode b_H_best 31 = .ok (.getfield 154, 3) := by decide +kernel
theorem d_H_best_34 : decode b_H_best 34 = .ok (.iload_n 1, 1) := by decide +kernel
theorem d_H_best_35 : decode b_H_best 35 = .ok (.laload, 1) := by decide +kernel
theorem d_H_best_36 : decode b_H_best 36 = .ok (.goto 6, 3) := by decide +kernel
theorem d_H_best_39 : decode b_H_best 39 = .ok (.ldc2_w 157, 3) := by decide +kernel
theorem d_H_best_42 : decode b_H_best 42 = .ok (.lreturn, 1) := by decide +kernel
theorem d_H_bestAt_0 : decode b_H_bestAt 0 = .ok (.iload_n 1, 1) := by decide +kernel
theorem d_H_bestAt_1 : decode b_H_bestAt 1 = .ok (.ifCond .lt 9, 3) := by decide +kernel
theorem d_H_bestAt_4 : decode b_H_bestAt 4 = .ok (.iload_n 1, 1) := by decide +kernel
theorem d_H_bestAt_5 : decode b_H_bestAt 5 = .ok (.bipush 10, 2) := by decide +kernel
theorem d_H_bestAt_7 : decode b_H_bestAt 7 = .ok (.if_icmp .lt 6, 3) := by decide +kernel
theorem d_H_bestAt_10 : decode b_H_bestAt 10 = .ok (.bipush (-2), 2) := by decide +kernel
theorem d_H_bestAt_12 : decode b_H_bestAt 12 = .ok (.ireturn, 1) := by decide +kernel
theorem d_H_bestAt_13 : decode b_H_bestAt 13 = .ok (.aload_n 0, 1) := by decide +kernel
theorem d_H_bestAt_14 : decode b_H_bestAt 14 = .ok (.getfield 40, 3) := by decide +kernel
theorem d_H_bestAt_17 : decode b_H_bestAt 17 = .ok (.invokevirtual 145, 3) := by decide +kernel
theorem d_H_bestAt_20 : decode b_H_bestAt 20 = .ok (.astore_n 3, 1) := by decide +kernel
theorem d_H_bestAt_21 : decode b_H_bestAt 21 = .ok (.iload_n 1, 1) := by decide +kernel
theorem d_H_bestAt_22 : decode b_H_bestAt 22 = .ok (.aload_n 3, 1) := by decide +kernel
theorem d_H_bestAt_23 : decode b_H_bestAt 23 = .ok (.getfield 149, 3) := by decide +kernel
theorem d_H_bestAt_26 : decode b_H_bestAt 26 = .ok (.if_icmp .lt 6, 3) := by decide +kernel
theorem d_H_bestAt_29 : decode b_H_bestAt 29 = .ok (.bipush (-3), 2) := by decide +kernel
theorem d_H_bestAt_31 : decode b_H_bestAt 31 = .ok (.ireturn, 1) := by decide +kernel
theorem d_H_bestAt_32 : decode b_H_bestAt 32 = .ok (.aload_n 0, 1) := by decide +kernel
theorem d_H_bestAt_33 : decode b_H_bestAt 33 = .ok (.getfield 12, 3) := by decide +kernel
theorem d_H_bestAt_36 : decode b_H_bestAt 36 = .ok (.iload_n 2, 1) := by decide +kernel
theorem d_H_bestAt_37 : decode b_H_bestAt 37 = .ok (.invokevirtual 114, 3) := by decide +kernel
theorem d_H_bestAt_40 : decode b_H_bestAt 40 = .ok (.ifCond .eq 20, 3) := by decide +kernel
theorem d_H_bestAt_43 : decode b_H_bestAt 43 = .ok (.aload_n 0, 1) := by decide +kernel
theorem d_H_bestAt_44 : decode b_H_bestAt 44 = .ok (.getfield 12, 3) := by decide +kernel
theorem d_H_bestAt_47 : decode b_H_bestAt 47 = .ok (.aload_n 3, 1) := by decide +kernel
theorem d_H_bestAt_48 : decode b_H_bestAt 48 = .ok (.getfield 159, 3) := by decide +kernel
theorem d_H_bestAt_51 : decode b_H_bestAt 51 = .ok (.iload_n 1, 1) := by decide +kernel
theorem d_H_bestAt_52 : decode b_H_bestAt 52 = .ok (.iaload, 1) := by decide +kernel
theorem d_H_bestAt_53 : decode b_H_bestAt 53 = .ok (.iload_n 2, 1) := by decide +kernel
theorem d_H_bestAt_54 : decode b_H_bestAt 54 = .ok (.invokevirtual 162, 3) := by decide +kernel
theorem d_H_bestAt_57 : decode b_H_bestAt 57 = .ok (.goto 4, 3) := by decide +kernel
theorem d_H_bestAt_60 : decode b_H_bestAt 60 = .ok (.iconst (-1), 1) := by decide +kernel
theorem d_H_bestAt_61 : decode b_H_bestAt 61 = .ok (.ireturn, 1) := by decide +kernel
theorem d_H_drawn_0 : decode b_H_drawn 0 = .ok (.aload_n 0, 1) := by decide +kernel
theorem d_H_drawn_1 : decode b_H_drawn 1 = .ok (.getfield 28, 3) := by decide +kernel
theorem d_H_drawn_4 : decode b_H_drawn 4 = .ok (.invokevirtual 119, 3) := by decide +kernel
theorem d_H_drawn_7 : decode b_H_drawn 7 = .ok (.lstore_n 2, 1) := by decide +kernel
theorem d_H_drawn_8 : decode b_H_drawn 8 = .ok (.lload_n 2, 1) := by decide +kernel
theorem d_H_drawn_9 : decode b_H_drawn 9 = .ok (.lconst 0, 1) := by decide +kernel
theorem d_H_drawn_10 : decode b_H_drawn 10 = .ok (.lcmp, 1) := by decide +kernel
theorem d_H_drawn_11 : decode b_H_drawn 11 = .ok (.ifCond .gt 7, 3) := by decide +kernel
theorem d_H_drawn_14 : decode b_H_drawn 14 = .ok (.ldc2_w 157, 3) := by decide +kernel
theorem d_H_drawn_17 : decode b_H_drawn 17 = .ok (.lreturn, 1) := by decide +kernel
theorem d_H_drawn_18 : decode b_H_drawn 18 = .ok (.aload_n 0, 1) := by decide +kernel
theorem d_H_drawn_19 : decode b_H_drawn 19 = .ok (.getfield 47, 3) := by decide +kernel
theorem d_H_drawn_22 : decode b_H_drawn 22 = .ok (.iload_n 1, 1) := by decide +kernel
theorem d_H_drawn_23 : decode b_H_drawn 23 = .ok (.invokestatic 165, 3) := by decide +kernel
theorem d_H_drawn_26 : decode b_H_drawn 26 = .ok (.lload_n 2, 1) := by decide +kernel
theorem d_H_drawn_27 : decode b_H_drawn 27 = .ok (.lrem, 1) := by decide +kernel
theorem d_H_drawn_28 : decode b_H_drawn 28 = .ok (.invokevirtual 169, 3) := by decide +kernel
theorem d_H_drawn_31 : decode b_H_drawn 31 = .ok (.lreturn, 1) := by decide +kernel
theorem d_H_drawnAt_0 : decode b_H_drawnAt 0 = .ok (.aload_n 0, 1) := by decide +kernel
theorem d_H_drawnAt_1 : decode b_H_drawnAt 1 = .ok (.getfield 47, 3) := by decide +kernel
theorem d_H_drawnAt_4 : decode b_H_drawnAt 4 = .ok (.getfield 173, 3) := by decide +kernel
theorem d_H_drawnAt_7 : decode b_H_drawnAt 7 = .ok (.ifCond .ne 6, 3) := by decide +kernel
theorem d_H_drawnAt_10 : decode b_H_drawnAt 10 = .ok (.bipush (-3), 2) := by decide +kernel
theorem d_H_drawnAt_12 : decode b_H_drawnAt 12 = .ok (.ireturn, 1) := by decide +kernel
theorem d_H_drawnAt_13 : decode b_H_drawnAt 13 = .ok (.aload_n 0, 1) := by decide +kernel
theorem d_H_drawnAt_14 : decode b_H_drawnAt 14 = .ok (.getfield 12, 3) := by decide +kernel
theorem d_H_drawnAt_17 : decode b_H_drawnAt 17 = .ok (.iload_n 1, 1) := by decide +kernel
theorem d_H_drawnAt_18 : decode b_H_drawnAt 18 = .ok (.invokevirtual 114, 3) := by decide +kernel
theorem d_H_drawnAt_21 : decode b_H_drawnAt 21 = .ok (.ifCond .eq 21, 3) := by decide +kernel
theorem d_H_drawnAt_24 : decode b_H_drawnAt 24 = .ok (.aload_n 0, 1) := by decide +kernel
theorem d_H_drawnAt_25 : decode b_H_drawnAt 25 = .ok (.getfield 12, 3) := by decide +kernel
theorem d_H_drawnAt_28 : decode b_H_drawnAt 28 = .ok (.aload_n 0, 1) := by decide +kernel
theorem d_H_drawnAt_29 : decode b_H_drawnAt 29 = .ok (.getfield 47, 3) := by decide +kernel
theorem d_H_drawnAt_32 : decode b_H_drawnAt 32 = .ok (.getfield 177, 3) := by decide +kernel
theorem d_H_drawnAt_35 : decode b_H_drawnAt 35 = .ok (.iload_n 1, 1) := by decide +kernel
theorem d_H_drawnAt_36 : decode b_H_drawnAt 36 = .ok (.invokevirtual 162, 3) := by decide +kernel
theorem d_H_drawnAt_39 : decode b_H_drawnAt 39 = .ok (.goto 4, 3) := by decide +kernel
theorem d_H_drawnAt_42 : decode b_H_drawnAt 42 = .ok (.iconst (-1), 1) := by decide +kernel
theorem d_H_drawnAt_43 : decode b_H_drawnAt 43 = .ok (.ireturn, 1) := by decide +kernel
theorem d_H_trees_0 : decode b_H_trees 0 = .ok (.aload_n 0, 1) := by decide +kernel
theorem d_H_trees_1 : decode b_H_trees 1 = .ok (.getfield 54, 3) := by decide +kernel
theorem d_H_trees_4 : decode b_H_trees 4 = .ok (.iload_n 1, 1) := by decide +kernel
theorem d_H_trees_5 : decode b_H_trees 5 = .ok (.invokevirtual 96, 3) := by decide +kernel
theorem d_H_trees_8 : decode b_H_trees 8 = .ok (.ifCond .eq 14, 3) := by decide +kernel
theorem d_H_trees_11 : decode b_H_trees 11 = .ok (.aload_n 0, 1) := by decide +kernel
theorem d_H_trees_12 : decode b_H_trees 12 = .ok (.getfield 63, 3) := by decide +kernel
theorem d_H_trees_15 : decode b_H_trees 15 = .ok (.iload_n 1, 1) := by decide +kernel
theorem d_H_trees_16 : decode b_H_trees 16 = .ok (.invokevirtual 179, 3) := by decide +kernel
theorem d_H_trees_19 : decode b_H_trees 19 = .ok (.goto 6, 3) := by decide +kernel
theorem d_H_trees_22 : decode b_H_trees 22 = .ok (.ldc2_w 123, 3) := by decide +kernel
theorem d_H_trees_25 : decode b_H_trees 25 = .ok (.lreturn, 1) := by decide +kernel
theorem d_H_treeCount_0 : decode b_H_treeCount 0 = .ok (.aload_n 0, 1) := by decide +kernel
theorem d_H_treeCount_1 : decode b_H_treeCount 1 = .ok (.getfield 54, 3) := by decide +kernel
theorem d_H_treeCount_4 : decode b_H_treeCount 4 = .ok (.iload_n 1, 1) := by decide +kernel
theorem d_H_treeCount_5 : decode b_H_treeCount 5 = .ok (.invokevirtual 96, 3) := by decide +kernel
theorem d_H_treeCount_8 : decode b_H_treeCount 8 = .ok (.ifCond .eq 14, 3) := by decide +kernel
theorem d_H_treeCount_11 : decode b_H_treeCount 11 = .ok (.aload_n 0, 1) := by decide +kernel
theorem d_H_treeCount_12 : decode b_H_treeCount 12 = .ok (.getfield 63, 3) := by decide +kernel
theorem d_H_treeCount_15 : decode b_H_treeCount 15 = .ok (.iload_n 1, 1) := by decide +kernel
theorem d_H_treeCount_16 : decode b_H_treeCount 16 = .ok (.invokevirtual 182, 3) := by decide +kernel
theorem d_H_treeCount_19 : decode b_H_treeCount 19 = .ok (.goto 6, 3) := by decide +kernel
theorem d_H_treeCount_22 : decode b_H_treeCount 22 = .ok (.ldc2_w 123, 3) := by decide +kernel
theorem d_H_treeCount_25 : decode b_H_treeCount 25 = .ok (.lreturn, 1) := by decide +kernel
theorem d_H_treeBest_0 : decode b_H_treeBest 0 = .ok (.aload_n 0, 1) := by decide +kernel
theorem d_H_treeBest_1 : decode b_H_treeBest 1 = .ok (.getfield 54, 3) := by decide +kernel
theorem d_H_treeBest_4 : decode b_H_treeBest 4 = .ok (.iload_n 1, 1) := by decide +kernel
theorem d_H_treeBest_5 : decode b_H_treeBest 5 = .ok (.invokevirtual 96, 3) := by decide +kernel
theorem d_H_treeBest_8 : decode b_H_treeBest 8 = .ok (.ifCond .ne 7, 3) := by decide +kernel
theorem d_H_treeBest_11 : decode b_H_treeBest 11 = .ok (.ldc2_w 123, 3) := by decide +kernel
theorem d_H_treeBest_14 : decode b_H_treeBest 14 = .ok (.lreturn, 1) := by decide +kernel
theorem d_H_treeBest_15 : decode b_H_treeBest 15 = .ok (.aload_n 0, 1) := by decide +kernel
theorem d_H_treeBest_16 : decode b_H_treeBest 16 = .ok (.getfield 63, 3) := by decide +kernel
theorem d_H_treeBest_19 : decode b_H_treeBest 19 = .ok (.iload_n 1, 1) := by decide +kernel
theorem d_H_treeBest_20 : decode b_H_treeBest 20 = .ok (.invokevirtual 179, 3) := by decide +kernel
theorem d_H_treeBest_23 : decode b_H_treeBest 23 = .ok (.lconst 0, 1) := by decide +kernel
theorem d_H_treeBest_24 : decode b_H_treeBest 24 = .ok (.lcmp, 1) := by decide +kernel
theorem d_H_treeBest_25 : decode b_H_treeBest 25 = .ok (.ifCond .le 14, 3) := by decide +kernel
theorem d_H_treeBest_28 : decode b_H_treeBest 28 = .ok (.aload_n 0, 1) := by decide +kernel
theorem d_H_treeBest_29 : decode b_H_treeBest 29 = .ok (.getfield 63, 3) := by decide +kernel
theorem d_H_treeBest_32 : decode b_H_treeBest 32 = .ok (.iload_n 1, 1) := by decide +kernel
theorem d_H_treeBest_33 : decode b_H_treeBest 33 = .ok (.invokevirtual 185, 3) := by decide +kernel
theorem d_H_treeBest_36 : decode b_H_treeBest 36 = .ok (.goto 6, 3) := by decide +kernel
theorem d_H_treeBest_39 : decode b_H_treeBest 39 = .ok (.ldc2_w 157, 3) := by decide +kernel
theorem d_H_treeBest_42 : decode b_H_treeBest 42 = .ok (.lreturn, 1) := by decide +kernel
theorem d_H_treeAt_0 : decode b_H_treeAt 0 = .ok (.aload_n 0, 1) := by decide +kernel
theorem d_H_treeAt_1 : decode b_H_treeAt 1 = .ok (.getfield 54, 3) := by decide +kernel
theorem d_H_treeAt_4 : decode b_H_treeAt 4 = .ok (.iload_n 1, 1) := by decide +kernel
theorem d_H_treeAt_5 : decode b_H_treeAt 5 = .ok (.invokevirtual 96, 3) := by decide +kernel
theorem d_H_treeAt_8 : decode b_H_treeAt 8 = .ok (.ifCond .ne 5, 3) := by decide +kernel
theorem d_H_treeAt_11 : decode b_H_treeAt 11 = .ok (.iconst (-1), 1) := by decide +kernel
theorem d_H_treeAt_12 : decode b_H_treeAt 12 = .ok (.ireturn, 1) := by decide +kernel
theorem d_H_treeAt_13 : decode b_H_treeAt 13 = .ok (.aload_n 0, 1) := by decide +kernel
theorem d_H_treeAt_14 : decode b_H_treeAt 14 = .ok (.getfield 63, 3) := by decide +kernel
theorem d_H_treeAt_17 : decode b_H_treeAt 17 = .ok (.iload_n 1, 1) := by decide +kernel
theorem d_H_treeAt_18 : decode b_H_treeAt 18 = .ok (.invokevirtual 179, 3) := by decide +kernel
theorem d_H_treeAt_21 : decode b_H_treeAt 21 = .ok (.lconst 0, 1) := by decide +kernel
theorem d_H_treeAt_22 : decode b_H_treeAt 22 = .ok (.lcmp, 1) := by decide +kernel
theorem d_H_treeAt_23 : decode b_H_treeAt 23 = .ok (.ifCond .gt 6, 3) := by decide +kernel
theorem d_H_treeAt_26 : decode b_H_treeAt 26 = .ok (.bipush (-3), 2) := by decide +kernel
theorem d_H_treeAt_28 : decode b_H_treeAt 28 = .ok (.ireturn, 1) := by decide +kernel
theorem d_H_treeAt_29 : decode b_H_treeAt 29 = .ok (.iload_n 2, 1) := by decide +kernel
theorem d_H_treeAt_30 : decode b_H_treeAt 30 = .ok (.ifCond .lt 18, 3) := by decide +kernel
theorem d_H_treeAt_33 : decode b_H_treeAt 33 = .ok (.iload_n 2, 1) := by decide +kernel
theorem d_H_treeAt_34 : decode b_H_treeAt 34 = .ok (.iconst 2, 1) := by decide +kernel
theorem d_H_treeAt_35 : decode b_H_treeAt 35 = .ok (.aload_n 0, 1) := by decide +kernel
theorem d_H_treeAt_36 : decode b_H_treeAt 36 = .ok (.getfield 12, 3) := by decide +kernel
theorem d_H_treeAt_39 : decode b_H_treeAt 39 = .ok (.getfield 107, 3) := by decide +kernel
theorem d_H_treeAt_42 : decode b_H_treeAt 42 = .ok (.imul, 1) := by decide +kernel
theorem d_H_treeAt_43 : decode b_H_treeAt 43 = .ok (.iconst 1, 1) := by decide +kernel
theorem d_H_treeAt_44 : decode b_H_treeAt 44 = .ok (.isub, 1) := by decide +kernel
theorem d_H_treeAt_45 : decode b_H_treeAt 45 = .ok (.if_icmp .lt 5, 3) := by decide +kernel
theorem d_H_treeAt_48 : decode b_H_treeAt 48 = .ok (.iconst (-1), 1) := by decide +kernel
theorem d_H_treeAt_49 : decode b_H_treeAt 49 = .ok (.ireturn, 1) := by decide +kernel
theorem d_H_treeAt_50 : decode b_H_treeAt 50 = .ok (.aload_n 0, 1) := by decide +kernel
theorem d_H_treeAt_51 : decode b_H_treeAt 51 = .ok (.getfield 63, 3) := by decide +kernel
theorem d_H_treeAt_54 : decode b_H_treeAt 54 = .ok (.iload_n 1, 1) := by decide +kernel
theorem d_H_treeAt_55 : decode b_H_treeAt 55 = .ok (.iload_n 2, 1) := by decide +kernel
theorem d_H_treeAt_56 : decode b_H_treeAt 56 = .ok (.invokevirtual 188, 3) := by decide +kernel
theorem d_H_treeAt_59 : decode b_H_treeAt 59 = .ok (.ireturn, 1) := by decide +kernel
theorem d_H_span_0 : decode b_H_span 0 = .ok (.aload_n 0, 1) := by decide +kernel
theorem d_H_span_1 : decode b_H_span 1 = .ok (.getfield 54, 3) := by decide +kernel
theorem d_H_span_4 : decode b_H_span 4 = .ok (.iload_n 1, 1) := by decide +kernel
theorem d_H_span_5 : decode b_H_span 5 = .ok (.invokevirtual 96, 3) := by decide +kernel
theorem d_H_span_8 : decode b_H_span 8 = .ok (.ifCond .eq 43, 3) := by decide +kernel
theorem d_H_span_11 : decode b_H_span 11 = .ok (.aload_n 0, 1) := by decide +kernel
theorem d_H_span_12 : decode b_H_span 12 = .ok (.getfield 54, 3) := by decide +kernel
theorem d_H_span_15 : decode b_H_span 15 = .ok (.iload_n 2, 1) := by decide +kernel
theorem d_H_span_16 : decode b_H_span 16 = .ok (.invokevirtual 96, 3) := by decide +kernel
theorem d_H_span_19 : decode b_H_span 19 = .ok (.ifCond .eq 32, 3) := by decide +kernel
theorem d_H_span_22 : decode b_H_span 22 = .ok (.aload_n 0, 1) := by decide +kernel
theorem d_H_span_23 : decode b_H_span 23 = .ok (.getfield 12, 3) := by decide +kernel
theorem d_H_span_26 : decode b_H_span 26 = .ok (.iload_n 3, 1) := by decide +kernel
theorem d_H_span_27 : decode b_H_span 27 = .ok (.invokevirtual 114, 3) := by decide +kernel
theorem d_H_span_30 : decode b_H_span 30 = .ok (.ifCond .eq 21, 3) := by decide +kernel
theorem d_H_span_33 : decode b_H_span 33 = .ok (.aload_n 0, 1) := by decide +kernel
theorem d_H_span_34 : decode b_H_span 34 = .ok (.getfield 12, 3) := by decide +kernel
theorem d_H_span_37 : decode b_H_span 37 = .ok (.iload 4, 2) := by decide +kernel
theorem d_H_span_39 : decode b_H_span 39 = .ok (.invokevirtual 114, 3) := by decide +kernel
theorem d_H_span_42 : decode b_H_span 42 = .ok (.ifCond .eq 9, 3) := by decide +kernel
theorem d_H_span_45 : decode b_H_span 45 = .ok (.iload_n 3, 1) := by decide +kernel
theorem d_H_span_46 : decode b_H_span 46 = .ok (.iload 4, 2) := by decide +kernel
theorem d_H_span_48 : decode b_H_span 48 = .ok (.if_icmp .le 7, 3) := by decide +kernel
theorem d_H_span_51 : decode b_H_span 51 = .ok (.ldc2_w 123, 3) := by decide +kernel
theorem d_H_span_54 : decode b_H_span 54 = .ok (.lreturn, 1) := by decide +kernel
theorem d_H_span_55 : decode b_H_span 55 = .ok (.iload 5, 2) := by decide +kernel
theorem d_H_span_57 : decode b_H_span 57 = .ok (.invokestatic 125, 3) := by decide +kernel
theorem d_H_span_60 : decode b_H_span 60 = .ok (.ifCond .ne 7, 3) := by decide +kernel
theorem d_H_span_63 : decode b_H_span 63 = .ok (.ldc2_w 128, 3) := by decide +kernel
theorem d_H_span_66 : decode b_H_span 66 = .ok (.lreturn, 1) := by decide +kernel
theorem d_H_span_67 : decode b_H_span 67 = .ok (.aload_n 0, 1) := by decide +kernel
theorem d_H_span_68 : decode b_H_span 68 = .ok (.getfield 63, 3) := by decide +kernel
theorem d_H_span_71 : decode b_H_span 71 = .ok (.iload_n 1, 1) := by decide +kernel
theorem d_H_span_72 : decode b_H_span 72 = .ok (.iload_n 2, 1) := by decide +kernel
theorem d_H_span_73 : decode b_H_span 73 = .ok (.iload_n 3, 1) := by decide +kernel
theorem d_H_span_74 : decode b_H_span 74 = .ok (.iload 4, 2) := by decide +kernel
theorem d_H_span_76 : decode b_H_span 76 = .ok (.invokevirtual 191, 3) := by decide +kernel
theorem d_H_span_79 : decode b_H_span 79 = .ok (.aload_n 0, 1) := by decide +kernel
theorem d_H_span_80 : decode b_H_span 80 = .ok (.getfield 63, 3) := by decide +kernel
theorem d_H_span_83 : decode b_H_span 83 = .ok (.iload_n 1, 1) := by decide +kernel
theorem d_H_span_84 : decode b_H_span 84 = .ok (.invokevirtual 179, 3) := by decide +kernel
theorem d_H_span_87 : decode b_H_span 87 = .ok (.iload 5, 2) := by decide +kernel
theorem d_H_span_89 : decode b_H_span 89 = .ok (.invokestatic 134, 3) := by decide +kernel
theorem d_H_span_92 : decode b_H_span 92 = .ok (.lreturn, 1) := by decide +kernel
