theorem dX_bound_22 : decode cX_bound 22 = .ok (.iload_n 3, 1) := by decide +kernel
theorem dX_bound_23 : decode cX_bound 23 = .ok (.aload_n 0, 1) := by decide +kernel
theorem dX_bound_24 : decode cX_bound 24 = .ok (.getfield 12, 3) := by decide +kernel
theorem dX_bound_27 : decode cX_bound 27 = .ok (.getfield 87, 3) := by decide +kernel
theorem dX_bound_30 : decode cX_bound 30 = .ok (.if_icmp .le 13, 3) := by decide +kernel
theorem dX_bound_33 : decode cX_bound 33 = .ok (.new 98, 3) := by decide +kernel
theorem dX_bound_36 : decode cX_bound 36 = .ok (.dup, 1) := by decide +kernel
theorem dX_bound_37 : decode cX_bound 37 = .ok (.ldc 186, 2) := by decide +kernel
theorem dX_bound_39 : decode cX_bound 39 = .ok (.invokespecial 102, 3) := by decide +kernel
theorem dX_bound_42 : decode cX_bound 42 = .ok (.athrow, 1) := by decide +kernel
theorem dX_bound_43 : decode cX_bound 43 = .ok (.aload_n 0, 1) := by decide +kernel
theorem dX_bound_44 : decode cX_bound 44 = .ok (.getfield 37, 3) := by decide +kernel
theorem dX_bound_47 : decode cX_bound 47 = .ok (.iload_n 1, 1) := by decide +kernel
theorem dX_bound_48 : decode cX_bound 48 = .ok (.iload_n 2, 1) := by decide +kernel
theorem dX_bound_49 : decode cX_bound 49 = .ok (.iload_n 3, 1) := by decide +kernel
theorem dX_bound_50 : decode cX_bound 50 = .ok (.invokevirtual 188, 3) := by decide +kernel
theorem dX_bound_53 : decode cX_bound 53 = .ok (.ireturn, 1) := by decide +kernel
theorem dX_near_0 : decode cX_near 0 = .ok (.aload_n 0, 1) := by decide +kernel
theorem dX_near_1 : decode cX_near 1 = .ok (.getfield 12, 3) := by decide +kernel
theorem dX_near_4 : decode cX_near 4 = .ok (.iload_n 1, 1) := by decide +kernel
theorem dX_near_5 : decode cX_near 5 = .ok (.invokevirtual 139, 3) := by decide +kernel
theorem dX_near_8 : decode cX_near 8 = .ok (.ifCond .eq 18, 3) := by decide +kernel
theorem dX_near_11 : decode cX_near 11 = .ok (.iload_n 2, 1) := by decide +kernel
theorem dX_near_12 : decode cX_near 12 = .ok (.ifCond .lt 14, 3) := by decide +kernel
theorem dX_near_15 : decode cX_near 15 = .ok (.iload_n 2, 1) := by decide +kernel
theorem dX_near_16 : decode cX_near 16 = .ok (.aload_n 0, 1) := by decide +kernel
theorem dX_near_17 : decode cX_near 17 = .ok (.getfield 12, 3) := by decide +kernel
theorem dX_near_20 : decode cX_near 20 = .ok (.invokevirtual 192, 3) := by decide +kernel
theorem dX_near_23 : decode cX_near 23 = .ok (.if_icmp .lt 13, 3) := by decide +kernel
theorem dX_near_26 : decode cX_near 26 = .ok (.new 98, 3) := by decide +kernel
theorem dX_near_29 : decode cX_near 29 = .ok (.dup, 1) := by decide +kernel
theorem dX_near_30 : decode cX_near 30 = .ok (.ldc 196, 2) := by decide +kernel
theorem dX_near_32 : decode cX_near 32 = .ok (.invokespecial 102, 3) := by decide +kernel
theorem dX_near_35 : decode cX_near 35 = .ok (.athrow, 1) := by decide +kernel
theorem dX_near_36 : decode cX_near 36 = .ok (.aload_n 0, 1) := by decide +kernel
theorem dX_near_37 : decode cX_near 37 = .ok (.getfield 12, 3) := by decide +kernel
theorem dX_near_40 : decode cX_near 40 = .ok (.iload_n 1, 1) := by decide +kernel
theorem dX_near_41 : decode cX_near 41 = .ok (.iload_n 2, 1) := by decide +kernel
theorem dX_near_42 : decode cX_near 42 = .ok (.invokevirtual 198, 3) := by decide +kernel
theorem dX_near_45 : decode cX_near 45 = .ok (.ireturn, 1) := by decide +kernel
theorem dX_slack_0 : decode cX_slack 0 = .ok (.iload_n 1, 1) := by decide +kernel
theorem dX_slack_1 : decode cX_slack 1 = .ok (.ifCond .ge 13, 3) := by decide +kernel
theorem dX_slack_4 : decode cX_slack 4 = .ok (.new 58, 3) := by decide +kernel
theorem dX_slack_7 : decode cX_slack 7 = .ok (.dup, 1) := by decide +kernel
theorem dX_slack_8 : decode cX_slack 8 = .ok (.ldc 201, 2) := by decide +kernel
theorem dX_slack_10 : decode cX_slack 10 = .ok (.invokespecial 62, 3) := by decide +kernel
theorem dX_slack_13 : decode cX_slack 13 = .ok (.athrow, 1) := by decide +kernel
theorem dX_slack_14 : decode cX_slack 14 = .ok (.aload_n 0, 1) := by decide +kernel
theorem dX_slack_15 : decode cX_slack 15 = .ok (.getfield 47, 3) := by decide +kernel
theorem dX_slack_18 : decode cX_slack 18 = .ok (.getfield 203, 3) := by decide +kernel
theorem dX_slack_21 : decode cX_slack 21 = .ok (.istore_n 2, 1) := by decide +kernel
theorem dX_slack_22 : decode cX_slack 22 = .ok (.aload_n 0, 1) := by decide +kernel
theorem dX_slack_23 : decode cX_slack 23 = .ok (.getfield 47, 3) := by decide +kernel
theorem dX_slack_26 : decode cX_slack 26 = .ok (.iload_n 1, 1) := by decide +kernel
theorem dX_slack_27 : decode cX_slack 27 = .ok (.putfield 203, 3) := by decide +kernel
theorem dX_slack_30 : decode cX_slack 30 = .ok (.iload_n 2, 1) := by decide +kernel
theorem dX_slack_31 : decode cX_slack 31 = .ok (.ireturn, 1) := by decide +kernel
theorem dX_walk_0 : decode cX_walk 0 = .ok (.aload_n 0, 1) := by decide +kernel
theorem dX_walk_1 : decode cX_walk 1 = .ok (.getfield 12, 3) := by decide +kernel
theorem dX_walk_4 : decode cX_walk 4 = .ok (.iload_n 1, 1) := by decide +kernel
theorem dX_walk_5 : decode cX_walk 5 = .ok (.invokevirtual 139, 3) := by decide +kernel
theorem dX_walk_8 : decode cX_walk 8 = .ok (.ifCond .ne 13, 3) := by decide +kernel
theorem dX_walk_11 : decode cX_walk 11 = .ok (.new 98, 3) := by decide +kernel
theorem dX_walk_14 : decode cX_walk 14 = .ok (.dup, 1) := by decide +kernel
theorem dX_walk_15 : decode cX_walk 15 = .ok (.ldc 156, 2) := by decide +kernel
theorem dX_walk_17 : decode cX_walk 17 = .ok (.invokespecial 102, 3) := by decide +kernel
theorem dX_walk_20 : decode cX_walk 20 = .ok (.athrow, 1) := by decide +kernel
theorem dX_walk_21 : decode cX_walk 21 = .ok (.aload_n 0, 1) := by decide +kernel
theorem dX_walk_22 : decode cX_walk 22 = .ok (.getfield 21, 3) := by decide +kernel
theorem dX_walk_25 : decode cX_walk 25 = .ok (.iload_n 1, 1) := by decide +kernel
theorem dX_walk_26 : decode cX_walk 26 = .ok (.invokevirtual 158, 3) := by decide +kernel
theorem dX_walk_29 : decode cX_walk 29 = .ok (.ifCond .eq 15, 3) := by decide +kernel
theorem dX_walk_32 : decode cX_walk 32 = .ok (.iload_n 2, 1) := by decide +kernel
theorem dX_walk_33 : decode cX_walk 33 = .ok (.iconst 1, 1) := by decide +kernel
theorem dX_walk_34 : decode cX_walk 34 = .ok (.if_icmp .lt 10, 3) := by decide +kernel
theorem dX_walk_37 : decode cX_walk 37 = .ok (.iload_n 2, 1) := by decide +kernel
theorem dX_walk_38 : decode cX_walk 38 = .ok (.sipush 1000, 3) := by decide +kernel
theorem dX_walk_41 : decode cX_walk 41 = .ok (.if_icmp .le 13, 3) := by decide +kernel
theorem dX_walk_44 : decode cX_walk 44 = .ok (.new 58, 3) := by decide +kernel
theorem dX_walk_47 : decode cX_walk 47 = .ok (.dup, 1) := by decide +kernel
theorem dX_walk_48 : decode cX_walk 48 = .ok (.ldc 206, 2) := by decide +kernel
theorem dX_walk_50 : decode cX_walk 50 = .ok (.invokespecial 62, 3) := by decide +kernel
theorem dX_walk_53 : decode cX_walk 53 = .ok (.athrow, 1) := by decide +kernel
theorem dX_walk_54 : decode cX_walk 54 = .ok (.aload_n 0, 1) := by decide +kernel
theorem dX_walk_55 : decode cX_walk 55 = .ok (.getfield 12, 3) := by decide +kernel
theorem dX_walk_58 : decode cX_walk 58 = .ok (.getfield 87, 3) := by decide +kernel
theorem dX_walk_61 : decode cX_walk 61 = .ok (.ifCond .ne 13, 3) := by decide +kernel
theorem dX_walk_64 : decode cX_walk 64 = .ok (.new 208, 3) := by decide +kernel
theorem dX_walk_67 : decode cX_walk 67 = .ok (.dup, 1) := by decide +kernel
theorem dX_walk_68 : decode cX_walk 68 = .ok (.ldc 210, 2) := by decide +kernel
theorem dX_walk_70 : decode cX_walk 70 = .ok (.invokespecial 212, 3) := by decide +kernel
theorem dX_walk_73 : decode cX_walk 73 = .ok (.athrow, 1) := by decide +kernel
theorem dX_walk_74 : decode cX_walk 74 = .ok (.aload_n 0, 1) := by decide +kernel
theorem dX_walk_75 : decode cX_walk 75 = .ok (.getfield 47, 3) := by decide +kernel
theorem dX_walk_78 : decode cX_walk 78 = .ok (.iload_n 1, 1) := by decide +kernel
theorem dX_walk_79 : decode cX_walk 79 = .ok (.iload_n 2, 1) := by decide +kernel
theorem dX_walk_80 : decode cX_walk 80 = .ok (.invokevirtual 213, 3) := by decide +kernel
theorem dX_walk_83 : decode cX_walk 83 = .ok (.ireturn, 1) := by decide +kernel
theorem dX_lowest_0 : decode cX_lowest 0 = .ok (.aload_n 0, 1) := by decide +kernel
theorem dX_lowest_1 : decode cX_lowest 1 = .ok (.getfield 47, 3) := by decide +kernel
theorem dX_lowest_4 : decode cX_lowest 4 = .ok (.getfield 216, 3) := by decide +kernel
theorem dX_lowest_7 : decode cX_lowest 7 = .ok (.ireturn, 1) := by decide +kernel
theorem dX_matters_0 : decode cX_matters 0 = .ok (.aload_n 0, 1) := by decide +kernel
theorem dX_matters_1 : decode cX_matters 1 = .ok (.getfield 12, 3) := by decide +kernel
theorem dX_matters_4 : decode cX_matters 4 = .ok (.iload_n 1, 1) := by decide +kernel
theorem dX_matters_5 : decode cX_matters 5 = .ok (.invokevirtual 148, 3) := by decide +kernel
theorem dX_matters_8 : decode cX_matters 8 = .ok (.ifCond .eq 10, 3) := by decide +kernel
theorem dX_matters_11 : decode cX_matters 11 = .ok (.iload_n 2, 1) := by decide +kernel
theorem dX_matters_12 : decode cX_matters 12 = .ok (.invokestatic 91, 3) := by decide +kernel
theorem dX_matters_15 : decode cX_matters 15 = .ok (.ifCond .ne 13, 3) := by decide +kernel
theorem dX_matters_18 : decode cX_matters 18 = .ok (.new 98, 3) := by decide +kernel
theorem dX_matters_21 : decode cX_matters 21 = .ok (.dup, 1) := by decide +kernel
theorem dX_matters_22 : decode cX_matters 22 = .ok (.ldc 219, 2) := by decide +kernel
theorem dX_matters_24 : decode cX_matters 24 = .ok (.invokespecial 102, 3) := by decide +kernel
theorem dX_matters_27 : decode cX_matters 27 = .ok (.athrow, 1) := by decide +kernel
theorem dX_matters_28 : decode cX_matters 28 = .ok (.aload_n 0, 1) := by decide +kernel
theorem dX_matters_29 : decode cX_matters 29 = .ok (.getfield 21, 3) := by decide +kernel
theorem dX_matters_32 : decode cX_matters 32 = .ok (.iload_n 1, 1) := by decide +kernel
theorem dX_matters_33 : decode cX_matters 33 = .ok (.iload_n 2, 1) := by decide +kernel
theorem dX_matters_34 : decode cX_matters 34 = .ok (.invokevirtual 221, 3) := by decide +kernel
theorem dX_matters_37 : decode cX_matters 37 = .ok (.lreturn, 1) := by decide +kernel
theorem dX_sweep_0 : decode cX_sweep 0 = .ok (.iload_n 1, 1) := by decide +kernel
theorem dX_sweep_1 : decode cX_sweep 1 = .ok (.iconst 1, 1) := by decide +kernel
theorem dX_sweep_2 : decode cX_sweep 2 = .ok (.if_icmp .lt 10, 3) := by decide +kernel
theorem dX_sweep_5 : decode cX_sweep 5 = .ok (.iload_n 1, 1) := by decide +kernel
theorem dX_sweep_6 : decode cX_sweep 6 = .ok (.sipush 5000, 3) := by decide +kernel
theorem dX_sweep_9 : decode cX_sweep 9 = .ok (.if_icmp .le 13, 3) := by decide +kernel
theorem dX_sweep_12 : decode cX_sweep 12 = .ok (.new 58, 3) := by decide +kernel
theorem dX_sweep_15 : decode cX_sweep 15 = .ok (.dup, 1) := by decide +kernel
theorem dX_sweep_16 : decode cX_sweep 16 = .ok (.ldc 225, 2) := by decide +kernel
theorem dX_sweep_18 : decode cX_sweep 18 = .ok (.invokespecial 62, 3) := by decide +kernel
theorem dX_sweep_21 : decode cX_sweep 21 = .ok (.athrow, 1) := by decide +kernel
theorem dX_sweep_22 : decode cX_sweep 22 = .ok (.aload_n 0, 1) := by decide +kernel
theorem dX_sweep_23 : decode cX_sweep 23 = .ok (.getfield 54, 3) := by decide +kernel
theorem dX_sweep_26 : decode cX_sweep 26 = .ok (.invokevirtual 227, 3) := by decide +kernel
theorem dX_sweep_29 : decode cX_sweep 29 = .ok (.ifCond .eq 13, 3) := by decide +kernel
theorem dX_sweep_32 : decode cX_sweep 32 = .ok (.new 208, 3) := by decide +kernel
theorem dX_sweep_35 : decode cX_sweep 35 = .ok (.dup, 1) := by decide +kernel
theorem dX_sweep_36 : decode cX_sweep 36 = .ok (.ldc 231, 2) := by decide +kernel
theorem dX_sweep_38 : decode cX_sweep 38 = .ok (.invokespecial 212, 3) := by decide +kernel
theorem dX_sweep_41 : decode cX_sweep 41 = .ok (.athrow, 1) := by decide +kernel
theorem dX_sweep_42 : decode cX_sweep 42 = .ok (.aload_n 0, 1) := by decide +kernel
theorem dX_sweep_43 : decode cX_sweep 43 = .ok (.getfield 54, 3) := by decide +kernel
theorem dX_sweep_46 : decode cX_sweep 46 = .ok (.iload_n 1, 1) := by decide +kernel
theorem dX_sweep_47 : decode cX_sweep 47 = .ok (.invokevirtual 233, 3) := by decide +kernel
theorem dX_sweep_50 : decode cX_sweep 50 = .ok (.ireturn, 1) := by decide +kernel
theorem dX_count_0 : decode cX_count 0 = .ok (.iload_n 1, 1) := by decide +kernel
theorem dX_count_1 : decode cX_count 1 = .ok (.tableswitch 137 0 8 #[51, 59, 67, 75, 83, 91, 99, 121, 129], 51) := by decide +kernel
theorem dX_count_52 : decode cX_count 52 = .ok (.aload_n 0, 1) := by decide +kernel
theorem dX_count_53 : decode cX_count 53 = .ok (.getfield 12, 3) := by decide +kernel
theorem dX_count_56 : decode cX_count 56 = .ok (.getfield 87, 3) := by decide +kernel
theorem dX_count_59 : decode cX_count 59 = .ok (.ireturn, 1) := by decide +kernel
theorem dX_count_60 : decode cX_count 60 = .ok (.aload_n 0, 1) := by decide +kernel
theorem dX_count_61 : decode cX_count 61 = .ok (.getfield 12, 3) := by decide +kernel
theorem dX_count_64 : decode cX_count 64 = .ok (.getfield 236, 3) := by decide +kernel
theorem dX_count_67 : decode cX_count 67 = .ok (.ireturn, 1) := by decide +kernel
theorem dX_count_68 : decode cX_count 68 = .ok (.aload_n 0, 1) := by decide +kernel
theorem dX_count_69 : decode cX_count 69 = .ok (.getfield 21, 3) := by decide +kernel
theorem dX_count_72 : decode cX_count 72 = .ok (.getfield 107, 3) := by decide +kernel
theorem dX_count_75 : decode cX_count 75 = .ok (.ireturn, 1) := by decide +kernel
theorem dX_count_76 : decode cX_count 76 = .ok (.aload_n 0, 1) := by decide +kernel
theorem dX_count_77 : decode cX_count 77 = .ok (.getfield 21, 3) := by decide +kernel
theorem dX_count_80 : decode cX_count 80 = .ok (.getfield 120, 3) := by decide +kernel
theorem dX_count_83 : decode cX_count 83 = .ok (.ireturn, 1) := by decide +kernel
theorem dX_count_84 : decode cX_count 84 = .ok (.aload_n 0, 1) := by decide +kernel
theorem dX_count_85 : decode cX_count 85 = .ok (.getfield 21, 3) := by decide +kernel
theorem dX_count_88 : decode cX_count 88 = .ok (.invokevirtual 239, 3) := by decide +kernel
theorem dX_count_91 : decode cX_count 91 = .ok (.ireturn, 1) := by decide +kernel
theorem dX_count_92 : decode cX_count 92 = .ok (.aload_n 0, 1) := by decide +kernel
theorem dX_count_93 : decode cX_count 93 = .ok (.getfield 47, 3) := by decide +kernel
theorem dX_count_96 : decode cX_count 96 = .ok (.getfield 203, 3) := by decide +kernel
theorem dX_count_99 : decode cX_count 99 = .ok (.ireturn, 1) := by decide +kernel
theorem dX_count_100 : decode cX_count 100 = .ok (.aload_n 0, 1) := by decide +kernel
theorem dX_count_101 : decode cX_count 101 = .ok (.getfield 54, 3) := by decide +kernel
theorem dX_count_104 : decode cX_count 104 = .ok (.invokevirtual 227, 3) := by decide +kernel
theorem dX_count_107 : decode cX_count 107 = .ok (.ifCond .eq 7, 3) := by decide +kernel
theorem dX_count_110 : decode cX_count 110 = .ok (.iconst (-1), 1) := by decide +kernel
theorem dX_count_111 : decode cX_count 111 = .ok (.goto 10, 3) := by decide +kernel
theorem dX_count_114 : decode cX_count 114 = .ok (.aload_n 0, 1) := by decide +kernel
theorem dX_count_115 : decode cX_count 115 = .ok (.getfield 54, 3) := by decide +kernel
theorem dX_count_118 : decode cX_count 118 = .ok (.getfield 242, 3) := by decide +kernel
theorem dX_count_121 : decode cX_count 121 = .ok (.ireturn, 1) := by decide +kernel
theorem dX_count_122 : decode cX_count 122 = .ok (.aload_n 0, 1) := by decide +kernel
theorem dX_count_123 : decode cX_count 123 = .ok (.getfield 54, 3) := by decide +kernel
theorem dX_count_126 : decode cX_count 126 = .ok (.getfield 245, 3) := by decide +kernel
theorem dX_count_129 : decode cX_count 129 = .ok (.ireturn, 1) := by decide +kernel
theorem dX_count_130 : decode cX_count 130 = .ok (.aload_n 0, 1) := by decide +kernel
theorem dX_count_131 : decode cX_count 131 = .ok (.getfield 47, 3) := by decide +kernel
theorem dX_count_134 : decode cX_count 134 = .ok (.getfield 248, 3) := by decide +kernel
theorem dX_count_137 : decode cX_count 137 = .ok (.ireturn, 1) := by decide +kernel
theorem dX_count_138 : decode cX_count 138 = .ok (.iconst (-1), 1) := by decide +kernel
theorem dX_count_139 : decode cX_count 139 = .ok (.ireturn, 1) := by decide +kernel
theorem dX_isNumber_0 : decode cX_isNumber 0 = .ok (.iload_n 0, 1) := by decide +kernel
theorem dX_isNumber_1 : decode cX_isNumber 1 = .ok (.ifCond .lt 12, 3) := by decide +kernel
theorem dX_isNumber_4 : decode cX_isNumber 4 = .ok (.iload_n 0, 1) := by decide +kernel
theorem dX_isNumber_5 : decode cX_isNumber 5 = .ok (.iconst 4, 1) := by decide +kernel
theorem dX_isNumber_6 : decode cX_isNumber 6 = .ok (.if_icmp .ge 7, 3) := by decide +kernel
theorem dX_isNumber_9 : decode cX_isNumber 9 = .ok (.iconst 1, 1) := by decide +kernel
theorem dX_isNumber_10 : decode cX_isNumber 10 = .ok (.goto 4, 3) := by decide +kernel
theorem dX_isNumber_13 : decode cX_isNumber 13 = .ok (.iconst 0, 1) := by decide +kernel
theorem dX_isNumber_14 : decode cX_isNumber 14 = .ok (.ireturn, 1) := by decide +kernel
theorem dBo_init_0 : decode cBo_init 0 = .ok (.aload_n 0, 1) := by decide +kernel
theorem dBo_init_1 : decode cBo_init 1 = .ok (.invokespecial 3, 3) := by decide +kernel
theorem dBo_init_4 : decode cBo_init 4 = .ok (.aload_n 0, 1) := by decide +kernel
theorem dBo_init_5 : decode cBo_init 5 = .ok (.iconst 4, 1) := by decide +kernel
theorem dBo_init_6 : decode cBo_init 6 = .ok (.newarray .int, 2) := by decide +kernel
theorem dBo_init_8 : decode cBo_init 8 = .ok (.putfield 9, 3) := by decide +kernel
theorem dBo_init_11 : decode cBo_init 11 = .ok (.aload_n 0, 1) := by decide +kernel
theorem dBo_init_12 : decode cBo_init 12 = .ok (.sipush 400, 3) := by decide +kernel
theorem dBo_init_15 : decode cBo_init 15 = .ok (.newarray .int, 2) := by decide +kernel
theorem dBo_init_17 : decode cBo_init 17 = .ok (.putfield 15, 3) := by decide +kernel
theorem dBo_init_20 : decode cBo_init 20 = .ok (.aload_n 0, 1) := by decide +kernel
theorem dBo_init_21 : decode cBo_init 21 = .ok (.iconst 0, 1) := by decide +kernel
theorem dBo_init_22 : decode cBo_init 22 = .ok (.putfield 18, 3) := by decide +kernel
theorem dBo_init_25 : decode cBo_init 25 = .ok (.aload_n 0, 1) := by decide +kernel
theorem dBo_init_26 : decode cBo_init 26 = .ok (.iconst 0, 1) := by decide +kernel
theorem dBo_init_27 : decode cBo_init 27 = .ok (.putfield 22, 3) := by decide +kernel
theorem dBo_init_30 : decode cBo_init 30 = .ok (.aload_n 0, 1) := by decide +kernel
theorem dBo_init_31 : decode cBo_init 31 = .ok (.iconst 4, 1) := by decide +kernel
theorem dBo_init_32 : decode cBo_init 32 = .ok (.newarray .boolean, 2) := by decide +kernel
theorem dBo_init_34 : decode cBo_init 34 = .ok (.putfield 25, 3) := by decide +kernel
theorem dBo_init_37 : decode cBo_init 37 = .ok (.aload_n 0, 1) := by decide +kernel
theorem dBo_init_38 : decode cBo_init 38 = .ok (.iconst 4, 1) := by decide +kernel
theorem dBo_init_39 : decode cBo_init 39 = .ok (.newarray .int, 2) := by decide +kernel
theorem dBo_init_41 : decode cBo_init 41 = .ok (.putfield 29, 3) := by decide +kernel
theorem dBo_init_44 : decode cBo_init 44 = .ok (.aload_n 0, 1) := by decide +kernel
theorem dBo_init_45 : decode cBo_init 45 = .ok (.sipush 16384, 3) := by decide +kernel
theorem dBo_init_48 : decode cBo_init 48 = .ok (.newarray .int, 2) := by decide +kernel
theorem dBo_init_50 : decode cBo_init 50 = .ok (.putfield 32, 3) := by decide +kernel
theorem dBo_init_53 : decode cBo_init 53 = .ok (.aload_n 0, 1) := by decide +kernel
theorem dBo_init_54 : decode cBo_init 54 = .ok (.sipush 4096, 3) := by decide +kernel
theorem dBo_init_57 : decode cBo_init 57 = .ok (.newarray .boolean, 2) := by decide +kernel
theorem dBo_init_59 : decode cBo_init 59 = .ok (.putfield 35, 3) := by decide +kernel
theorem dBo_init_62 : decode cBo_init 62 = .ok (.aload_n 0, 1) := by decide +kernel
theorem dBo_init_63 : decode cBo_init 63 = .ok (.aload_n 1, 1) := by decide +kernel
theorem dBo_init_64 : decode cBo_init 64 = .ok (.putfield 38, 3) := by decide +kernel
theorem dBo_init_67 : decode cBo_init 67 = .ok (.aload_n 0, 1) := by decide +kernel
theorem dBo_init_68 : decode cBo_init 68 = .ok (.new 42, 3) := by decide +kernel
theorem dBo_init_71 : decode cBo_init 71 = .ok (.dup, 1) := by decide +kernel
theorem dBo_init_72 : decode cBo_init 72 = .ok (.aload_n 1, 1) := by decide +kernel
theorem dBo_init_73 : decode cBo_init 73 = .ok (.invokespecial 44, 3) := by decide +kernel
theorem dBo_init_76 : decode cBo_init 76 = .ok (.putfield 47, 3) := by decide +kernel
theorem dBo_init_79 : decode cBo_init 79 = .ok (.return_, 1) := by decide +kernel
theorem dBo_splitDesigns_0 : decode cBo_splitDesigns 0 = .ok (.aload_n 0, 1) := by decide +kernel
theorem dBo_splitDesigns_1 : decode cBo_splitDesigns 1 = .ok (.getfield 38, 3) := by decide +kernel
theorem dBo_splitDesigns_4 : decode cBo_splitDesigns 4 = .ok (.getfield 51, 3) := by decide +kernel
theorem dBo_splitDesigns_7 : decode cBo_splitDesigns 7 = .ok (.iconst 1, 1) := by decide +kernel
theorem dBo_splitDesigns_8 : decode cBo_splitDesigns 8 = .ok (.isub, 1) := by decide +kernel
theorem dBo_splitDesigns_9 : decode cBo_splitDesigns 9 = .ok (.istore_n 2, 1) := by decide +kernel
theorem dBo_splitDesigns_10 : decode cBo_splitDesigns 10 = .ok (.iload_n 2, 1) := by decide +kernel
theorem dBo_splitDesigns_11 : decode cBo_splitDesigns 11 = .ok (.ifCond .lt 33, 3) := by decide +kernel
theorem dBo_splitDesigns_14 : decode cBo_splitDesigns 14 = .ok (.iload_n 1, 1) := by decide +kernel
theorem dBo_splitDesigns_15 : decode cBo_splitDesigns 15 = .ok (.iconst 1, 1) := by decide +kernel
theorem dBo_splitDesigns_16 : decode cBo_splitDesigns 16 = .ok (.isub, 1) := by decide +kernel
theorem dBo_splitDesigns_17 : decode cBo_splitDesigns 17 = .ok (.istore_n 3, 1) := by decide +kernel
theorem dBo_splitDesigns_18 : decode cBo_splitDesigns 18 = .ok (.iload_n 3, 1) := by decide +kernel
theorem dBo_splitDesigns_19 : decode cBo_splitDesigns 19 = .ok (.ifCond .lt 19, 3) := by decide +kernel
theorem dBo_splitDesigns_22 : decode cBo_splitDesigns 22 = .ok (.aload_n 0, 1) := by decide +kernel
theorem dBo_splitDesigns_23 : decode cBo_splitDesigns 23 = .ok (.iload_n 2, 1) := by decide +kernel
theorem dBo_splitDesigns_24 : decode cBo_splitDesigns 24 = .ok (.iload_n 2, 1) := by decide +kernel
theorem dBo_splitDesigns_25 : decode cBo_splitDesigns 25 = .ok (.iload_n 1, 1) := by decide +kernel
theorem dBo_splitDesigns_26 : decode cBo_splitDesigns 26 = .ok (.imul, 1) := by decide +kernel
theorem dBo_splitDesigns_27 : decode cBo_splitDesigns 27 = .ok (.iload_n 3, 1) := by decide +kernel
theorem dBo_splitDesigns_28 : decode cBo_splitDesigns 28 = .ok (.iadd, 1) := by decide +kernel
theorem dBo_splitDesigns_29 : decode cBo_splitDesigns 29 = .ok (.invokevirtual 56, 3) := by decide +kernel
theorem dBo_splitDesigns_32 : decode cBo_splitDesigns 32 = .ok (.iinc 3 (-1), 3) := by decide +kernel
theorem dBo_splitDesigns_35 : decode cBo_splitDesigns 35 = .ok (.goto (-17), 3) := by decide +kernel
theorem dBo_splitDesigns_38 : decode cBo_splitDesigns 38 = .ok (.iinc 2 (-1), 3) := by decide +kernel
theorem dBo_splitDesigns_41 : decode cBo_splitDesigns 41 = .ok (.goto (-31), 3) := by decide +kernel
theorem dBo_splitDesigns_44 : decode cBo_splitDesigns 44 = .ok (.return_, 1) := by decide +kernel
theorem dBo_copyEntries_0 : decode cBo_copyEntries 0 = .ok (.aload_n 0, 1) := by decide +kernel
theorem dBo_copyEntries_1 : decode cBo_copyEntries 1 = .ok (.getfield 35, 3) := by decide +kernel
theorem dBo_copyEntries_4 : decode cBo_copyEntries 4 = .ok (.iload_n 2, 1) := by decide +kernel
theorem dBo_copyEntries_5 : decode cBo_copyEntries 5 = .ok (.aload_n 0, 1) := by decide +kernel
theorem dBo_copyEntries_6 : decode cBo_copyEntries 6 = .ok (.getfield 35, 3) := by decide +kernel
theorem dBo_copyEntries_9 : decode cBo_copyEntries 9 = .ok (.iload_n 1, 1) := by decide +kernel
theorem dBo_copyEntries_10 : decode cBo_copyEntries 10 = .ok (.baload, 1) := by decide +kernel
theorem dBo_copyEntries_11 : decode cBo_copyEntries 11 = .ok (.bastore, 1) := by decide +kernel
theorem dBo_copyEntries_12 : decode cBo_copyEntries 12 = .ok (.iconst 0, 1) := by decide +kernel
theorem dBo_copyEntries_13 : decode cBo_copyEntries 13 = .ok (.istore_n 3, 1) := by decide +kernel
theorem dBo_copyEntries_14 : decode cBo_copyEntries 14 = .ok (.iload_n 3, 1) := by decide +kernel
theorem dBo_copyEntries_15 : decode cBo_copyEntries 15 = .ok (.iconst 4, 1) := by decide +kernel
theorem dBo_copyEntries_16 : decode cBo_copyEntries 16 = .ok (.if_icmp .ge 29, 3) := by decide +kernel
theorem dBo_copyEntries_19 : decode cBo_copyEntries 19 = .ok (.aload_n 0, 1) := by decide +kernel
theorem dBo_copyEntries_20 : decode cBo_copyEntries 20 = .ok (.getfield 32, 3) := by decide +kernel
theorem dBo_copyEntries_23 : decode cBo_copyEntries 23 = .ok (.iload_n 2, 1) := by decide +kernel
theorem dBo_copyEntries_24 : decode cBo_copyEntries 24 = .ok (.iconst 4, 1) := by decide +kernel
theorem dBo_copyEntries_25 : decode cBo_copyEntries 25 = .ok (.imul, 1) := by decide +kernel
theorem dBo_copyEntries_26 : decode cBo_copyEntries 26 = .ok (.iload_n 3, 1) := by decide +kernel
theorem dBo_copyEntries_27 : decode cBo_copyEntries 27 = .ok (.iadd, 1) := by decide +kernel
theorem dBo_copyEntries_28 : decode cBo_copyEntries 28 = .ok (.aload_n 0, 1) := by decide +kernel
theorem dBo_copyEntries_29 : decode cBo_copyEntries 29 = .ok (.getfield 32, 3) := by decide +kernel
theorem dBo_copyEntries_32 : decode cBo_copyEntries 32 = .ok (.iload_n 1, 1) := by decide +kernel
theorem dBo_copyEntries_33 : decode cBo_copyEntries 33 = .ok (.iconst 4, 1) := by decide +kernel
theorem dBo_copyEntries_34 : decode cBo_copyEntries 34 = .ok (.imul, 1) := by decide +kernel
theorem dBo_copyEntries_35 : decode cBo_copyEntries 35 = .ok (.iload_n 3, 1) := by decide +kernel
theorem dBo_copyEntries_36 : decode cBo_copyEntries 36 = .ok (.iadd, 1) := by decide +kernel
theorem dBo_copyEntries_37 : decode cBo_copyEntries 37 = .ok (.iaload, 1) := by decide +kernel
theorem dBo_copyEntries_38 : decode cBo_copyEntries 38 = .ok (.iastore, 1) := by decide +kernel
theorem dBo_copyEntries_39 : decode cBo_copyEntries 39 = .ok (.iinc 3 1, 3) := by decide +kernel
theorem dBo_copyEntries_42 : decode cBo_copyEntries 42 = .ok (.goto (-28), 3) := by decide +kernel
theorem dBo_copyEntries_45 : decode cBo_copyEntries 45 = .ok (.return_, 1) := by decide +kernel
theorem dBo_addTerm_0 : decode cBo_addTerm 0 = .ok (.iload_n 1, 1) := by decide +kernel
theorem dBo_addTerm_1 : decode cBo_addTerm 1 = .ok (.bipush 100, 2) := by decide +kernel
theorem dBo_addTerm_3 : decode cBo_addTerm 3 = .ok (.imul, 1) := by decide +kernel
theorem dBo_addTerm_4 : decode cBo_addTerm 4 = .ok (.aload_n 0, 1) := by decide +kernel
theorem dBo_addTerm_5 : decode cBo_addTerm 5 = .ok (.getfield 9, 3) := by decide +kernel
theorem dBo_addTerm_8 : decode cBo_addTerm 8 = .ok (.iload_n 1, 1) := by decide +kernel
theorem dBo_addTerm_9 : decode cBo_addTerm 9 = .ok (.iaload, 1) := by decide +kernel
theorem dBo_addTerm_10 : decode cBo_addTerm 10 = .ok (.iadd, 1) := by decide +kernel
theorem dBo_addTerm_11 : decode cBo_addTerm 11 = .ok (.istore 7, 2) := by decide +kernel
theorem dBo_addTerm_13 : decode cBo_addTerm 13 = .ok (.aload_n 0, 1) := by decide +kernel
theorem dBo_addTerm_14 : decode cBo_addTerm 14 = .ok (.getfield 47, 3) := by decide +kernel
theorem dBo_addTerm_17 : decode cBo_addTerm 17 = .ok (.iload 7, 2) := by decide +kernel
theorem dBo_addTerm_19 : decode cBo_addTerm 19 = .ok (.iload_n 2, 1) := by decide +kernel
theorem dBo_addTerm_20 : decode cBo_addTerm 20 = .ok (.iload_n 3, 1) := by decide +kernel
theorem dBo_addTerm_21 : decode cBo_addTerm 21 = .ok (.iload 4, 2) := by decide +kernel
theorem dBo_addTerm_23 : decode cBo_addTerm 23 = .ok (.iload 5, 2) := by decide +kernel
theorem dBo_addTerm_25 : decode cBo_addTerm 25 = .ok (.invokevirtual 60, 3) := by decide +kernel
theorem dBo_addTerm_28 : decode cBo_addTerm 28 = .ok (.aload_n 0, 1) := by decide +kernel
theorem dBo_addTerm_29 : decode cBo_addTerm 29 = .ok (.getfield 15, 3) := by decide +kernel
theorem dBo_addTerm_32 : decode cBo_addTerm 32 = .ok (.iload 7, 2) := by decide +kernel
theorem dBo_addTerm_34 : decode cBo_addTerm 34 = .ok (.iload 6, 2) := by decide +kernel
theorem dBo_addTerm_36 : decode cBo_addTerm 36 = .ok (.iastore, 1) := by decide +kernel
theorem dBo_addTerm_37 : decode cBo_addTerm 37 = .ok (.aload_n 0, 1) := by decide +kernel
theorem dBo_addTerm_38 : decode cBo_addTerm 38 = .ok (.getfield 9, 3) := by decide +kernel
theorem dBo_addTerm_41 : decode cBo_addTerm 41 = .ok (.iload_n 1, 1) := by decide +kernel
theorem dBo_addTerm_42 : decode cBo_addTerm 42 = .ok (.dup2, 1) := by decide +kernel
theorem dBo_addTerm_43 : decode cBo_addTerm 43 = .ok (.iaload, 1) := by decide +kernel
theorem dBo_addTerm_44 : decode cBo_addTerm 44 = .ok (.iconst 1, 1) := by decide +kernel
theorem dBo_addTerm_45 : decode cBo_addTerm 45 = .ok (.iadd, 1) := by decide +kernel
theorem dBo_addTerm_46 : decode cBo_addTerm 46 = .ok (.iastore, 1) := by decide +kernel
theorem dBo_addTerm_47 : decode cBo_addTerm 47 = .ok (.aload_n 0, 1) := by decide +kernel
theorem dBo_addTerm_48 : decode cBo_addTerm 48 = .ok (.dup, 1) := by decide +kernel
theorem dBo_addTerm_49 : decode cBo_addTerm 49 = .ok (.getfield 18, 3) := by decide +kernel
theorem dBo_addTerm_52 : decode cBo_addTerm 52 = .ok (.iconst 1, 1) := by decide +kernel
theorem dBo_addTerm_53 : decode cBo_addTerm 53 = .ok (.iadd, 1) := by decide +kernel
theorem dBo_addTerm_54 : decode cBo_addTerm 54 = .ok (.putfield 18, 3) := by decide +kernel
theorem dBo_addTerm_57 : decode cBo_addTerm 57 = .ok (.iconst 0, 1) := by decide +kernel
theorem dBo_addTerm_58 : decode cBo_addTerm 58 = .ok (.istore 8, 2) := by decide +kernel
theorem dBo_addTerm_60 : decode cBo_addTerm 60 = .ok (.iload 8, 2) := by decide +kernel
theorem dBo_addTerm_62 : decode cBo_addTerm 62 = .ok (.aload_n 0, 1) := by decide +kernel
theorem dBo_addTerm_63 : decode cBo_addTerm 63 = .ok (.getfield 38, 3) := by decide +kernel
theorem dBo_addTerm_66 : decode cBo_addTerm 66 = .ok (.getfield 51, 3) := by decide +kernel
theorem dBo_addTerm_69 : decode cBo_addTerm 69 = .ok (.if_icmp .ge 39, 3) := by decide +kernel
theorem dBo_addTerm_72 : decode cBo_addTerm 72 = .ok (.aload_n 0, 1) := by decide +kernel
theorem dBo_addTerm_73 : decode cBo_addTerm 73 = .ok (.getfield 47, 3) := by decide +kernel
theorem dBo_addTerm_76 : decode cBo_addTerm 76 = .ok (.iload 7, 2) := by decide +kernel
theorem dBo_addTerm_78 : decode cBo_addTerm 78 = .ok (.iload 8, 2) := by decide +kernel
theorem dBo_addTerm_80 : decode cBo_addTerm 80 = .ok (.invokevirtual 64, 3) := by decide +kernel
theorem dBo_addTerm_83 : decode cBo_addTerm 83 = .ok (.ifCond .eq 19, 3) := by decide +kernel
theorem dBo_addTerm_86 : decode cBo_addTerm 86 = .ok (.aload_n 0, 1) := by decide +kernel
theorem dBo_addTerm_87 : decode cBo_addTerm 87 = .ok (.getfield 32, 3) := by decide +kernel
theorem dBo_addTerm_90 : decode cBo_addTerm 90 = .ok (.iload 8, 2) := by decide +kernel
theorem dBo_addTerm_92 : decode cBo_addTerm 92 = .ok (.iconst 4, 1) := by decide +kernel
theorem dBo_addTerm_93 : decode cBo_addTerm 93 = .ok (.imul, 1) := by decide +kernel
theorem dBo_addTerm_94 : decode cBo_addTerm 94 = .ok (.iload_n 1, 1) := by decide +kernel
theorem dBo_addTerm_95 : decode cBo_addTerm 95 = .ok (.iadd, 1) := by decide +kernel
theorem dBo_addTerm_96 : decode cBo_addTerm 96 = .ok (.dup2, 1) := by decide +kernel
theorem dBo_addTerm_97 : decode cBo_addTerm 97 = .ok (.iaload, 1) := by decide +kernel
theorem dBo_addTerm_98 : decode cBo_addTerm 98 = .ok (.iload 6, 2) := by decide +kernel
theorem dBo_addTerm_100 : decode cBo_addTerm 100 = .ok (.iadd, 1) := by decide +kernel
theorem dBo_addTerm_101 : decode cBo_addTerm 101 = .ok (.iastore, 1) := by decide +kernel
theorem dBo_addTerm_102 : decode cBo_addTerm 102 = .ok (.iinc 8 1, 3) := by decide +kernel
theorem dBo_addTerm_105 : decode cBo_addTerm 105 = .ok (.goto (-45), 3) := by decide +kernel
theorem dBo_addTerm_108 : decode cBo_addTerm 108 = .ok (.return_, 1) := by decide +kernel
theorem dBo_addRule_0 : decode cBo_addRule 0 = .ok (.sipush 400, 3) := by decide +kernel
theorem dBo_addRule_3 : decode cBo_addRule 3 = .ok (.aload_n 0, 1) := by decide +kernel
theorem dBo_addRule_4 : decode cBo_addRule 4 = .ok (.getfield 22, 3) := by decide +kernel
theorem dBo_addRule_7 : decode cBo_addRule 7 = .ok (.iadd, 1) := by decide +kernel
theorem dBo_addRule_8 : decode cBo_addRule 8 = .ok (.istore 5, 2) := by decide +kernel
theorem dBo_addRule_10 : decode cBo_addRule 10 = .ok (.aload_n 0, 1) := by decide +kernel
theorem dBo_addRule_11 : decode cBo_addRule 11 = .ok (.getfield 47, 3) := by decide +kernel
theorem dBo_addRule_14 : decode cBo_addRule 14 = .ok (.iload 5, 2) := by decide +kernel
theorem dBo_addRule_16 : decode cBo_addRule 16 = .ok (.iload_n 1, 1) := by decide +kernel
theorem dBo_addRule_17 : decode cBo_addRule 17 = .ok (.iload_n 2, 1) := by decide +kernel
theorem dBo_addRule_18 : decode cBo_addRule 18 = .ok (.iload_n 3, 1) := by decide +kernel
theorem dBo_addRule_19 : decode cBo_addRule 19 = .ok (.iload 4, 2) := by decide +kernel
theorem dBo_addRule_21 : decode cBo_addRule 21 = .ok (.invokevirtual 60, 3) := by decide +kernel
theorem dBo_addRule_24 : decode cBo_addRule 24 = .ok (.aload_n 0, 1) := by decide +kernel
theorem dBo_addRule_25 : decode cBo_addRule 25 = .ok (.dup, 1) := by decide +kernel
theorem dBo_addRule_26 : decode cBo_addRule 26 = .ok (.getfield 22, 3) := by decide +kernel
theorem dBo_addRule_29 : decode cBo_addRule 29 = .ok (.iconst 1, 1) := by decide +kernel
theorem dBo_addRule_30 : decode cBo_addRule 30 = .ok (.iadd, 1) := by decide +kernel
theorem dBo_addRule_31 : decode cBo_addRule 31 = .ok (.putfield 22, 3) := by decide +kernel
theorem dBo_addRule_34 : decode cBo_addRule 34 = .ok (.iconst 0, 1) := by decide +kernel
theorem dBo_addRule_35 : decode cBo_addRule 35 = .ok (.istore 6, 2) := by decide +kernel
theorem dBo_addRule_37 : decode cBo_addRule 37 = .ok (.iload 6, 2) := by decide +kernel
theorem dBo_addRule_39 : decode cBo_addRule 39 = .ok (.aload_n 0, 1) := by decide +kernel
theorem dBo_addRule_40 : decode cBo_addRule 40 = .ok (.getfield 38, 3) := by decide +kernel
theorem dBo_addRule_43 : decode cBo_addRule 43 = .ok (.getfield 51, 3) := by decide +kernel
theorem dBo_addRule_46 : decode cBo_addRule 46 = .ok (.if_icmp .ge 31, 3) := by decide +kernel
theorem dBo_addRule_49 : decode cBo_addRule 49 = .ok (.aload_n 0, 1) := by decide +kernel
theorem dBo_addRule_50 : decode cBo_addRule 50 = .ok (.getfield 47, 3) := by decide +kernel
theorem dBo_addRule_53 : decode cBo_addRule 53 = .ok (.iload 5, 2) := by decide +kernel
theorem dBo_addRule_55 : decode cBo_addRule 55 = .ok (.iload 6, 2) := by decide +kernel
theorem dBo_addRule_57 : decode cBo_addRule 57 = .ok (.invokevirtual 64, 3) := by decide +kernel
theorem dBo_addRule_60 : decode cBo_addRule 60 = .ok (.ifCond .eq 11, 3) := by decide +kernel
theorem dBo_addRule_63 : decode cBo_addRule 63 = .ok (.aload_n 0, 1) := by decide +kernel
theorem dBo_addRule_64 : decode cBo_addRule 64 = .ok (.getfield 35, 3) := by decide +kernel
