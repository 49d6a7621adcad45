theorem dM_init_0 : decode cM_init 0 = .ok (.aload_n 0, 1) := by decide +kernel
theorem dM_init_1 : decode cM_init 1 = .ok (.invokespecial 1, 3) := by decide +kernel
theorem dM_init_4 : decode cM_init 4 = .ok (.aload_n 0, 1) := by decide +kernel
theorem dM_init_5 : decode cM_init 5 = .ok (.iconst 1, 1) := by decide +kernel
theorem dM_init_6 : decode cM_init 6 = .ok (.putfield 7, 3) := by decide +kernel
theorem dM_init_9 : decode cM_init 9 = .ok (.aload_n 0, 1) := by decide +kernel
theorem dM_init_10 : decode cM_init 10 = .ok (.bipush 8, 2) := by decide +kernel
theorem dM_init_12 : decode cM_init 12 = .ok (.newarray .int, 2) := by decide +kernel
theorem dM_init_14 : decode cM_init 14 = .ok (.putfield 13, 3) := by decide +kernel
theorem dM_init_17 : decode cM_init 17 = .ok (.aload_n 0, 1) := by decide +kernel
theorem dM_init_18 : decode cM_init 18 = .ok (.bipush 100, 2) := by decide +kernel
theorem dM_init_20 : decode cM_init 20 = .ok (.newarray .int, 2) := by decide +kernel
theorem dM_init_22 : decode cM_init 22 = .ok (.putfield 17, 3) := by decide +kernel
theorem dM_init_25 : decode cM_init 25 = .ok (.aload_n 0, 1) := by decide +kernel
theorem dM_init_26 : decode cM_init 26 = .ok (.bipush 100, 2) := by decide +kernel
theorem dM_init_28 : decode cM_init 28 = .ok (.newarray .int, 2) := by decide +kernel
theorem dM_init_30 : decode cM_init 30 = .ok (.putfield 20, 3) := by decide +kernel
theorem dM_init_33 : decode cM_init 33 = .ok (.aload_n 0, 1) := by decide +kernel
theorem dM_init_34 : decode cM_init 34 = .ok (.bipush 100, 2) := by decide +kernel
theorem dM_init_36 : decode cM_init 36 = .ok (.newarray .int, 2) := by decide +kernel
theorem dM_init_38 : decode cM_init 38 = .ok (.putfield 23, 3) := by decide +kernel
theorem dM_init_41 : decode cM_init 41 = .ok (.aload_n 0, 1) := by decide +kernel
theorem dM_init_42 : decode cM_init 42 = .ok (.bipush 100, 2) := by decide +kernel
theorem dM_init_44 : decode cM_init 44 = .ok (.newarray .int, 2) := by decide +kernel
theorem dM_init_46 : decode cM_init 46 = .ok (.putfield 26, 3) := by decide +kernel
theorem dM_init_49 : decode cM_init 49 = .ok (.aload_n 0, 1) := by decide +kernel
theorem dM_init_50 : decode cM_init 50 = .ok (.bipush 100, 2) := by decide +kernel
theorem dM_init_52 : decode cM_init 52 = .ok (.newarray .int, 2) := by decide +kernel
theorem dM_init_54 : decode cM_init 54 = .ok (.putfield 29, 3) := by decide +kernel
theorem dM_init_57 : decode cM_init 57 = .ok (.aload_n 0, 1) := by decide +kernel
theorem dM_init_58 : decode cM_init 58 = .ok (.bipush 100, 2) := by decide +kernel
theorem dM_init_60 : decode cM_init 60 = .ok (.newarray .int, 2) := by decide +kernel
theorem dM_init_62 : decode cM_init 62 = .ok (.putfield 32, 3) := by decide +kernel
theorem dM_init_65 : decode cM_init 65 = .ok (.aload_n 0, 1) := by decide +kernel
theorem dM_init_66 : decode cM_init 66 = .ok (.bipush 40, 2) := by decide +kernel
theorem dM_init_68 : decode cM_init 68 = .ok (.newarray .int, 2) := by decide +kernel
theorem dM_init_70 : decode cM_init 70 = .ok (.putfield 35, 3) := by decide +kernel
theorem dM_init_73 : decode cM_init 73 = .ok (.aload_n 0, 1) := by decide +kernel
theorem dM_init_74 : decode cM_init 74 = .ok (.bipush 40, 2) := by decide +kernel
theorem dM_init_76 : decode cM_init 76 = .ok (.newarray .int, 2) := by decide +kernel
theorem dM_init_78 : decode cM_init 78 = .ok (.putfield 38, 3) := by decide +kernel
theorem dM_init_81 : decode cM_init 81 = .ok (.aload_n 0, 1) := by decide +kernel
theorem dM_init_82 : decode cM_init 82 = .ok (.bipush 40, 2) := by decide +kernel
theorem dM_init_84 : decode cM_init 84 = .ok (.newarray .int, 2) := by decide +kernel
theorem dM_init_86 : decode cM_init 86 = .ok (.putfield 41, 3) := by decide +kernel
theorem dM_init_89 : decode cM_init 89 = .ok (.aload_n 0, 1) := by decide +kernel
theorem dM_init_90 : decode cM_init 90 = .ok (.bipush 40, 2) := by decide +kernel
theorem dM_init_92 : decode cM_init 92 = .ok (.newarray .int, 2) := by decide +kernel
theorem dM_init_94 : decode cM_init 94 = .ok (.putfield 44, 3) := by decide +kernel
theorem dM_init_97 : decode cM_init 97 = .ok (.aload_n 0, 1) := by decide +kernel
theorem dM_init_98 : decode cM_init 98 = .ok (.iconst 4, 1) := by decide +kernel
theorem dM_init_99 : decode cM_init 99 = .ok (.newarray .boolean, 2) := by decide +kernel
theorem dM_init_101 : decode cM_init 101 = .ok (.putfield 47, 3) := by decide +kernel
theorem dM_init_104 : decode cM_init 104 = .ok (.aload_n 0, 1) := by decide +kernel
theorem dM_init_105 : decode cM_init 105 = .ok (.iconst 4, 1) := by decide +kernel
theorem dM_init_106 : decode cM_init 106 = .ok (.newarray .int, 2) := by decide +kernel
theorem dM_init_108 : decode cM_init 108 = .ok (.putfield 51, 3) := by decide +kernel
theorem dM_init_111 : decode cM_init 111 = .ok (.aload_n 0, 1) := by decide +kernel
theorem dM_init_112 : decode cM_init 112 = .ok (.bipush 8, 2) := by decide +kernel
theorem dM_init_114 : decode cM_init 114 = .ok (.newarray .int, 2) := by decide +kernel
theorem dM_init_116 : decode cM_init 116 = .ok (.putfield 54, 3) := by decide +kernel
theorem dM_init_119 : decode cM_init 119 = .ok (.aload_n 0, 1) := by decide +kernel
theorem dM_init_120 : decode cM_init 120 = .ok (.iconst (-1), 1) := by decide +kernel
theorem dM_init_121 : decode cM_init 121 = .ok (.putfield 57, 3) := by decide +kernel
theorem dM_init_124 : decode cM_init 124 = .ok (.aload_n 0, 1) := by decide +kernel
theorem dM_init_125 : decode cM_init 125 = .ok (.sipush 4096, 3) := by decide +kernel
theorem dM_init_128 : decode cM_init 128 = .ok (.newarray .boolean, 2) := by decide +kernel
theorem dM_init_130 : decode cM_init 130 = .ok (.putfield 60, 3) := by decide +kernel
theorem dM_init_133 : decode cM_init 133 = .ok (.aload_n 0, 1) := by decide +kernel
theorem dM_init_134 : decode cM_init 134 = .ok (.sipush 16384, 3) := by decide +kernel
theorem dM_init_137 : decode cM_init 137 = .ok (.newarray .int, 2) := by decide +kernel
theorem dM_init_139 : decode cM_init 139 = .ok (.putfield 63, 3) := by decide +kernel
theorem dM_init_142 : decode cM_init 142 = .ok (.aload_n 0, 1) := by decide +kernel
theorem dM_init_143 : decode cM_init 143 = .ok (.iload_n 1, 1) := by decide +kernel
theorem dM_init_144 : decode cM_init 144 = .ok (.ldc 66, 2) := by decide +kernel
theorem dM_init_146 : decode cM_init 146 = .ok (.iand, 1) := by decide +kernel
theorem dM_init_147 : decode cM_init 147 = .ok (.putfield 67, 3) := by decide +kernel
theorem dM_init_150 : decode cM_init 150 = .ok (.return_, 1) := by decide +kernel
theorem dM_thrown_0 : decode cM_thrown 0 = .ok (.aload_n 0, 1) := by decide +kernel
theorem dM_thrown_1 : decode cM_thrown 1 = .ok (.getfield 70, 3) := by decide +kernel
theorem dM_thrown_4 : decode cM_thrown 4 = .ok (.ireturn, 1) := by decide +kernel
theorem dM_fail_0 : decode cM_fail 0 = .ok (.aload_n 0, 1) := by decide +kernel
theorem dM_fail_1 : decode cM_fail 1 = .ok (.iload_n 1, 1) := by decide +kernel
theorem dM_fail_2 : decode cM_fail 2 = .ok (.putfield 70, 3) := by decide +kernel
theorem dM_fail_5 : decode cM_fail 5 = .ok (.iconst 0, 1) := by decide +kernel
theorem dM_fail_6 : decode cM_fail 6 = .ok (.ireturn, 1) := by decide +kernel
theorem dM_within_0 : decode cM_within 0 = .ok (.iload_n 0, 1) := by decide +kernel
theorem dM_within_1 : decode cM_within 1 = .ok (.iload_n 1, 1) := by decide +kernel
theorem dM_within_2 : decode cM_within 2 = .ok (.if_icmp .lt 12, 3) := by decide +kernel
theorem dM_within_5 : decode cM_within 5 = .ok (.iload_n 0, 1) := by decide +kernel
theorem dM_within_6 : decode cM_within 6 = .ok (.iload_n 2, 1) := by decide +kernel
theorem dM_within_7 : decode cM_within 7 = .ok (.if_icmp .gt 7, 3) := by decide +kernel
theorem dM_within_10 : decode cM_within 10 = .ok (.iconst 1, 1) := by decide +kernel
theorem dM_within_11 : decode cM_within 11 = .ok (.goto 4, 3) := by decide +kernel
theorem dM_within_14 : decode cM_within 14 = .ok (.iconst 0, 1) := by decide +kernel
theorem dM_within_15 : decode cM_within 15 = .ok (.ireturn, 1) := by decide +kernel
theorem dM_choice_0 : decode cM_choice 0 = .ok (.aload_n 0, 1) := by decide +kernel
theorem dM_choice_1 : decode cM_choice 1 = .ok (.iconst 0, 1) := by decide +kernel
theorem dM_choice_2 : decode cM_choice 2 = .ok (.putfield 70, 3) := by decide +kernel
theorem dM_choice_5 : decode cM_choice 5 = .ok (.iload_n 1, 1) := by decide +kernel
theorem dM_choice_6 : decode cM_choice 6 = .ok (.iconst 2, 1) := by decide +kernel
theorem dM_choice_7 : decode cM_choice 7 = .ok (.bipush 6, 2) := by decide +kernel
theorem dM_choice_9 : decode cM_choice 9 = .ok (.invokestatic 73, 3) := by decide +kernel
theorem dM_choice_12 : decode cM_choice 12 = .ok (.ifCond .ne 9, 3) := by decide +kernel
theorem dM_choice_15 : decode cM_choice 15 = .ok (.aload_n 0, 1) := by decide +kernel
theorem dM_choice_16 : decode cM_choice 16 = .ok (.iconst 1, 1) := by decide +kernel
theorem dM_choice_17 : decode cM_choice 17 = .ok (.invokevirtual 77, 3) := by decide +kernel
theorem dM_choice_20 : decode cM_choice 20 = .ok (.ireturn, 1) := by decide +kernel
theorem dM_choice_21 : decode cM_choice 21 = .ok (.aload_n 0, 1) := by decide +kernel
theorem dM_choice_22 : decode cM_choice 22 = .ok (.getfield 81, 3) := by decide +kernel
theorem dM_choice_25 : decode cM_choice 25 = .ok (.bipush 8, 2) := by decide +kernel
theorem dM_choice_27 : decode cM_choice 27 = .ok (.if_icmp .eq 15, 3) := by decide +kernel
theorem dM_choice_30 : decode cM_choice 30 = .ok (.aload_n 0, 1) := by decide +kernel
theorem dM_choice_31 : decode cM_choice 31 = .ok (.getfield 7, 3) := by decide +kernel
theorem dM_choice_34 : decode cM_choice 34 = .ok (.iload_n 1, 1) := by decide +kernel
theorem dM_choice_35 : decode cM_choice 35 = .ok (.imul, 1) := by decide +kernel
theorem dM_choice_36 : decode cM_choice 36 = .ok (.sipush 4096, 3) := by decide +kernel
theorem dM_choice_39 : decode cM_choice 39 = .ok (.if_icmp .le 9, 3) := by decide +kernel
theorem dM_choice_42 : decode cM_choice 42 = .ok (.aload_n 0, 1) := by decide +kernel
theorem dM_choice_43 : decode cM_choice 43 = .ok (.iconst 2, 1) := by decide +kernel
theorem dM_choice_44 : decode cM_choice 44 = .ok (.invokevirtual 77, 3) := by decide +kernel
theorem dM_choice_47 : decode cM_choice 47 = .ok (.ireturn, 1) := by decide +kernel
theorem dM_choice_48 : decode cM_choice 48 = .ok (.aload_n 0, 1) := by decide +kernel
theorem dM_choice_49 : decode cM_choice 49 = .ok (.getfield 13, 3) := by decide +kernel
theorem dM_choice_52 : decode cM_choice 52 = .ok (.aload_n 0, 1) := by decide +kernel
theorem dM_choice_53 : decode cM_choice 53 = .ok (.getfield 81, 3) := by decide +kernel
theorem dM_choice_56 : decode cM_choice 56 = .ok (.iload_n 1, 1) := by decide +kernel
theorem dM_choice_57 : decode cM_choice 57 = .ok (.iastore, 1) := by decide +kernel
theorem dM_choice_58 : decode cM_choice 58 = .ok (.aload_n 0, 1) := by decide +kernel
theorem dM_choice_59 : decode cM_choice 59 = .ok (.dup, 1) := by decide +kernel
theorem dM_choice_60 : decode cM_choice 60 = .ok (.getfield 81, 3) := by decide +kernel
theorem dM_choice_63 : decode cM_choice 63 = .ok (.iconst 1, 1) := by decide +kernel
theorem dM_choice_64 : decode cM_choice 64 = .ok (.iadd, 1) := by decide +kernel
theorem dM_choice_65 : decode cM_choice 65 = .ok (.putfield 81, 3) := by decide +kernel
theorem dM_choice_68 : decode cM_choice 68 = .ok (.aload_n 0, 1) := by decide +kernel
theorem dM_choice_69 : decode cM_choice 69 = .ok (.dup, 1) := by decide +kernel
theorem dM_choice_70 : decode cM_choice 70 = .ok (.getfield 7, 3) := by decide +kernel
theorem dM_choice_73 : decode cM_choice 73 = .ok (.iload_n 1, 1) := by decide +kernel
theorem dM_choice_74 : decode cM_choice 74 = .ok (.imul, 1) := by decide +kernel
theorem dM_choice_75 : decode cM_choice 75 = .ok (.putfield 7, 3) := by decide +kernel
theorem dM_choice_78 : decode cM_choice 78 = .ok (.aload_n 0, 1) := by decide +kernel
theorem dM_choice_79 : decode cM_choice 79 = .ok (.iconst 0, 1) := by decide +kernel
theorem dM_choice_80 : decode cM_choice 80 = .ok (.putfield 84, 3) := by decide +kernel
theorem dM_choice_83 : decode cM_choice 83 = .ok (.aload_n 0, 1) := by decide +kernel
theorem dM_choice_84 : decode cM_choice 84 = .ok (.iconst 0, 1) := by decide +kernel
theorem dM_choice_85 : decode cM_choice 85 = .ok (.putfield 87, 3) := by decide +kernel
theorem dM_choice_88 : decode cM_choice 88 = .ok (.aload_n 0, 1) := by decide +kernel
theorem dM_choice_89 : decode cM_choice 89 = .ok (.iconst 0, 1) := by decide +kernel
theorem dM_choice_90 : decode cM_choice 90 = .ok (.putfield 90, 3) := by decide +kernel
theorem dM_choice_93 : decode cM_choice 93 = .ok (.aload_n 0, 1) := by decide +kernel
theorem dM_choice_94 : decode cM_choice 94 = .ok (.getfield 81, 3) := by decide +kernel
theorem dM_choice_97 : decode cM_choice 97 = .ok (.iconst 1, 1) := by decide +kernel
theorem dM_choice_98 : decode cM_choice 98 = .ok (.isub, 1) := by decide +kernel
theorem dM_choice_99 : decode cM_choice 99 = .ok (.ireturn, 1) := by decide +kernel
theorem dM_isValue_0 : decode cM_isValue 0 = .ok (.iload_n 1, 1) := by decide +kernel
theorem dM_isValue_1 : decode cM_isValue 1 = .ok (.iconst 0, 1) := by decide +kernel
theorem dM_isValue_2 : decode cM_isValue 2 = .ok (.aload_n 0, 1) := by decide +kernel
theorem dM_isValue_3 : decode cM_isValue 3 = .ok (.getfield 81, 3) := by decide +kernel
theorem dM_isValue_6 : decode cM_isValue 6 = .ok (.iconst 1, 1) := by decide +kernel
theorem dM_isValue_7 : decode cM_isValue 7 = .ok (.isub, 1) := by decide +kernel
theorem dM_isValue_8 : decode cM_isValue 8 = .ok (.invokestatic 73, 3) := by decide +kernel
theorem dM_isValue_11 : decode cM_isValue 11 = .ok (.ifCond .eq 23, 3) := by decide +kernel
theorem dM_isValue_14 : decode cM_isValue 14 = .ok (.iload_n 2, 1) := by decide +kernel
theorem dM_isValue_15 : decode cM_isValue 15 = .ok (.iconst 0, 1) := by decide +kernel
theorem dM_isValue_16 : decode cM_isValue 16 = .ok (.aload_n 0, 1) := by decide +kernel
theorem dM_isValue_17 : decode cM_isValue 17 = .ok (.getfield 13, 3) := by decide +kernel
theorem dM_isValue_20 : decode cM_isValue 20 = .ok (.iload_n 1, 1) := by decide +kernel
theorem dM_isValue_21 : decode cM_isValue 21 = .ok (.iaload, 1) := by decide +kernel
theorem dM_isValue_22 : decode cM_isValue 22 = .ok (.iconst 1, 1) := by decide +kernel
theorem dM_isValue_23 : decode cM_isValue 23 = .ok (.isub, 1) := by decide +kernel
theorem dM_isValue_24 : decode cM_isValue 24 = .ok (.invokestatic 73, 3) := by decide +kernel
theorem dM_isValue_27 : decode cM_isValue 27 = .ok (.ifCond .eq 7, 3) := by decide +kernel
theorem dM_isValue_30 : decode cM_isValue 30 = .ok (.iconst 1, 1) := by decide +kernel
theorem dM_isValue_31 : decode cM_isValue 31 = .ok (.goto 4, 3) := by decide +kernel
theorem dM_isValue_34 : decode cM_isValue 34 = .ok (.iconst 0, 1) := by decide +kernel
theorem dM_isValue_35 : decode cM_isValue 35 = .ok (.ireturn, 1) := by decide +kernel
theorem dM_term_0 : decode cM_term 0 = .ok (.aload_n 0, 1) := by decide +kernel
theorem dM_term_1 : decode cM_term 1 = .ok (.iconst 0, 1) := by decide +kernel
theorem dM_term_2 : decode cM_term 2 = .ok (.putfield 70, 3) := by decide +kernel
theorem dM_term_5 : decode cM_term 5 = .ok (.iload_n 1, 1) := by decide +kernel
theorem dM_term_6 : decode cM_term 6 = .ok (.iconst 0, 1) := by decide +kernel
theorem dM_term_7 : decode cM_term 7 = .ok (.iconst 3, 1) := by decide +kernel
theorem dM_term_8 : decode cM_term 8 = .ok (.invokestatic 73, 3) := by decide +kernel
theorem dM_term_11 : decode cM_term 11 = .ok (.ifCond .eq 29, 3) := by decide +kernel
theorem dM_term_14 : decode cM_term 14 = .ok (.aload_n 0, 1) := by decide +kernel
theorem dM_term_15 : decode cM_term 15 = .ok (.iload_n 2, 1) := by decide +kernel
theorem dM_term_16 : decode cM_term 16 = .ok (.iload_n 3, 1) := by decide +kernel
theorem dM_term_17 : decode cM_term 17 = .ok (.invokevirtual 94, 3) := by decide +kernel
theorem dM_term_20 : decode cM_term 20 = .ok (.ifCond .eq 20, 3) := by decide +kernel
theorem dM_term_23 : decode cM_term 23 = .ok (.iload 4, 2) := by decide +kernel
theorem dM_term_25 : decode cM_term 25 = .ok (.iconst (-1), 1) := by decide +kernel
theorem dM_term_26 : decode cM_term 26 = .ok (.if_icmp .eq 20, 3) := by decide +kernel
theorem dM_term_29 : decode cM_term 29 = .ok (.aload_n 0, 1) := by decide +kernel
theorem dM_term_30 : decode cM_term 30 = .ok (.iload 4, 2) := by decide +kernel
theorem dM_term_32 : decode cM_term 32 = .ok (.iload 5, 2) := by decide +kernel
theorem dM_term_34 : decode cM_term 34 = .ok (.invokevirtual 94, 3) := by decide +kernel
theorem dM_term_37 : decode cM_term 37 = .ok (.ifCond .ne 9, 3) := by decide +kernel
theorem dM_term_40 : decode cM_term 40 = .ok (.aload_n 0, 1) := by decide +kernel
theorem dM_term_41 : decode cM_term 41 = .ok (.iconst 1, 1) := by decide +kernel
theorem dM_term_42 : decode cM_term 42 = .ok (.invokevirtual 77, 3) := by decide +kernel
theorem dM_term_45 : decode cM_term 45 = .ok (.ireturn, 1) := by decide +kernel
theorem dM_term_46 : decode cM_term 46 = .ok (.iload_n 2, 1) := by decide +kernel
theorem dM_term_47 : decode cM_term 47 = .ok (.iload 4, 2) := by decide +kernel
theorem dM_term_49 : decode cM_term 49 = .ok (.if_icmp .eq 15, 3) := by decide +kernel
theorem dM_term_52 : decode cM_term 52 = .ok (.iload 6, 2) := by decide +kernel
theorem dM_term_54 : decode cM_term 54 = .ok (.ldc 98, 2) := by decide +kernel
theorem dM_term_56 : decode cM_term 56 = .ok (.ldc 99, 2) := by decide +kernel
theorem dM_term_58 : decode cM_term 58 = .ok (.invokestatic 73, 3) := by decide +kernel
theorem dM_term_61 : decode cM_term 61 = .ok (.ifCond .ne 9, 3) := by decide +kernel
theorem dM_term_64 : decode cM_term 64 = .ok (.aload_n 0, 1) := by decide +kernel
theorem dM_term_65 : decode cM_term 65 = .ok (.iconst 2, 1) := by decide +kernel
theorem dM_term_66 : decode cM_term 66 = .ok (.invokevirtual 77, 3) := by decide +kernel
theorem dM_term_69 : decode cM_term 69 = .ok (.ireturn, 1) := by decide +kernel
theorem dM_term_70 : decode cM_term 70 = .ok (.aload_n 0, 1) := by decide +kernel
theorem dM_term_71 : decode cM_term 71 = .ok (.getfield 100, 3) := by decide +kernel
theorem dM_term_74 : decode cM_term 74 = .ok (.bipush 100, 2) := by decide +kernel
theorem dM_term_76 : decode cM_term 76 = .ok (.if_icmp .ne 9, 3) := by decide +kernel
theorem dM_term_79 : decode cM_term 79 = .ok (.aload_n 0, 1) := by decide +kernel
theorem dM_term_80 : decode cM_term 80 = .ok (.iconst 3, 1) := by decide +kernel
theorem dM_term_81 : decode cM_term 81 = .ok (.invokevirtual 77, 3) := by decide +kernel
theorem dM_term_84 : decode cM_term 84 = .ok (.ireturn, 1) := by decide +kernel
theorem dM_term_85 : decode cM_term 85 = .ok (.aload_n 0, 1) := by decide +kernel
theorem dM_term_86 : decode cM_term 86 = .ok (.getfield 17, 3) := by decide +kernel
theorem dM_term_89 : decode cM_term 89 = .ok (.aload_n 0, 1) := by decide +kernel
theorem dM_term_90 : decode cM_term 90 = .ok (.getfield 100, 3) := by decide +kernel
theorem dM_term_93 : decode cM_term 93 = .ok (.iload_n 1, 1) := by decide +kernel
theorem dM_term_94 : decode cM_term 94 = .ok (.iastore, 1) := by decide +kernel
theorem dM_term_95 : decode cM_term 95 = .ok (.aload_n 0, 1) := by decide +kernel
theorem dM_term_96 : decode cM_term 96 = .ok (.getfield 20, 3) := by decide +kernel
theorem dM_term_99 : decode cM_term 99 = .ok (.aload_n 0, 1) := by decide +kernel
theorem dM_term_100 : decode cM_term 100 = .ok (.getfield 100, 3) := by decide +kernel
theorem dM_term_103 : decode cM_term 103 = .ok (.iload_n 2, 1) := by decide +kernel
theorem dM_term_104 : decode cM_term 104 = .ok (.iastore, 1) := by decide +kernel
theorem dM_term_105 : decode cM_term 105 = .ok (.aload_n 0, 1) := by decide +kernel
theorem dM_term_106 : decode cM_term 106 = .ok (.getfield 23, 3) := by decide +kernel
theorem dM_term_109 : decode cM_term 109 = .ok (.aload_n 0, 1) := by decide +kernel
theorem dM_term_110 : decode cM_term 110 = .ok (.getfield 100, 3) := by decide +kernel
theorem dM_term_113 : decode cM_term 113 = .ok (.iload_n 3, 1) := by decide +kernel
theorem dM_term_114 : decode cM_term 114 = .ok (.iastore, 1) := by decide +kernel
theorem dM_term_115 : decode cM_term 115 = .ok (.aload_n 0, 1) := by decide +kernel
theorem dM_term_116 : decode cM_term 116 = .ok (.getfield 26, 3) := by decide +kernel
theorem dM_term_119 : decode cM_term 119 = .ok (.aload_n 0, 1) := by decide +kernel
theorem dM_term_120 : decode cM_term 120 = .ok (.getfield 100, 3) := by decide +kernel
theorem dM_term_123 : decode cM_term 123 = .ok (.iload 4, 2) := by decide +kernel
theorem dM_term_125 : decode cM_term 125 = .ok (.iastore, 1) := by decide +kernel
theorem dM_term_126 : decode cM_term 126 = .ok (.aload_n 0, 1) := by decide +kernel
theorem dM_term_127 : decode cM_term 127 = .ok (.getfield 29, 3) := by decide +kernel
theorem dM_term_130 : decode cM_term 130 = .ok (.aload_n 0, 1) := by decide +kernel
theorem dM_term_131 : decode cM_term 131 = .ok (.getfield 100, 3) := by decide +kernel
theorem dM_term_134 : decode cM_term 134 = .ok (.iload 5, 2) := by decide +kernel
theorem dM_term_136 : decode cM_term 136 = .ok (.iastore, 1) := by decide +kernel
theorem dM_term_137 : decode cM_term 137 = .ok (.aload_n 0, 1) := by decide +kernel
theorem dM_term_138 : decode cM_term 138 = .ok (.getfield 32, 3) := by decide +kernel
theorem dM_term_141 : decode cM_term 141 = .ok (.aload_n 0, 1) := by decide +kernel
theorem dM_term_142 : decode cM_term 142 = .ok (.getfield 100, 3) := by decide +kernel
theorem dM_term_145 : decode cM_term 145 = .ok (.iload 6, 2) := by decide +kernel
theorem dM_term_147 : decode cM_term 147 = .ok (.iastore, 1) := by decide +kernel
theorem dM_term_148 : decode cM_term 148 = .ok (.aload_n 0, 1) := by decide +kernel
theorem dM_term_149 : decode cM_term 149 = .ok (.dup, 1) := by decide +kernel
theorem dM_term_150 : decode cM_term 150 = .ok (.getfield 100, 3) := by decide +kernel
theorem dM_term_153 : decode cM_term 153 = .ok (.iconst 1, 1) := by decide +kernel
theorem dM_term_154 : decode cM_term 154 = .ok (.iadd, 1) := by decide +kernel
theorem dM_term_155 : decode cM_term 155 = .ok (.putfield 100, 3) := by decide +kernel
theorem dM_term_158 : decode cM_term 158 = .ok (.aload_n 0, 1) := by decide +kernel
theorem dM_term_159 : decode cM_term 159 = .ok (.iconst 0, 1) := by decide +kernel
theorem dM_term_160 : decode cM_term 160 = .ok (.putfield 90, 3) := by decide +kernel
theorem dM_term_163 : decode cM_term 163 = .ok (.aload_n 0, 1) := by decide +kernel
theorem dM_term_164 : decode cM_term 164 = .ok (.getfield 100, 3) := by decide +kernel
theorem dM_term_167 : decode cM_term 167 = .ok (.ireturn, 1) := by decide +kernel
theorem dM_rule_0 : decode cM_rule 0 = .ok (.aload_n 0, 1) := by decide +kernel
theorem dM_rule_1 : decode cM_rule 1 = .ok (.iconst 0, 1) := by decide +kernel
theorem dM_rule_2 : decode cM_rule 2 = .ok (.putfield 70, 3) := by decide +kernel
theorem dM_rule_5 : decode cM_rule 5 = .ok (.aload_n 0, 1) := by decide +kernel
theorem dM_rule_6 : decode cM_rule 6 = .ok (.iload_n 1, 1) := by decide +kernel
theorem dM_rule_7 : decode cM_rule 7 = .ok (.iload_n 2, 1) := by decide +kernel
theorem dM_rule_8 : decode cM_rule 8 = .ok (.invokevirtual 94, 3) := by decide +kernel
theorem dM_rule_11 : decode cM_rule 11 = .ok (.ifCond .eq 13, 3) := by decide +kernel
theorem dM_rule_14 : decode cM_rule 14 = .ok (.aload_n 0, 1) := by decide +kernel
theorem dM_rule_15 : decode cM_rule 15 = .ok (.iload_n 3, 1) := by decide +kernel
theorem dM_rule_16 : decode cM_rule 16 = .ok (.iload 4, 2) := by decide +kernel
theorem dM_rule_18 : decode cM_rule 18 = .ok (.invokevirtual 94, 3) := by decide +kernel
theorem dM_rule_21 : decode cM_rule 21 = .ok (.ifCond .ne 9, 3) := by decide +kernel
theorem dM_rule_24 : decode cM_rule 24 = .ok (.aload_n 0, 1) := by decide +kernel
theorem dM_rule_25 : decode cM_rule 25 = .ok (.iconst 1, 1) := by decide +kernel
theorem dM_rule_26 : decode cM_rule 26 = .ok (.invokevirtual 77, 3) := by decide +kernel
theorem dM_rule_29 : decode cM_rule 29 = .ok (.ireturn, 1) := by decide +kernel
theorem dM_rule_30 : decode cM_rule 30 = .ok (.iload_n 1, 1) := by decide +kernel
theorem dM_rule_31 : decode cM_rule 31 = .ok (.iload_n 3, 1) := by decide +kernel
theorem dM_rule_32 : decode cM_rule 32 = .ok (.if_icmp .ne 9, 3) := by decide +kernel
theorem dM_rule_35 : decode cM_rule 35 = .ok (.aload_n 0, 1) := by decide +kernel
theorem dM_rule_36 : decode cM_rule 36 = .ok (.iconst 2, 1) := by decide +kernel
theorem dM_rule_37 : decode cM_rule 37 = .ok (.invokevirtual 77, 3) := by decide +kernel
theorem dM_rule_40 : decode cM_rule 40 = .ok (.ireturn, 1) := by decide +kernel
theorem dM_rule_41 : decode cM_rule 41 = .ok (.aload_n 0, 1) := by decide +kernel
theorem dM_rule_42 : decode cM_rule 42 = .ok (.getfield 103, 3) := by decide +kernel
theorem dM_rule_45 : decode cM_rule 45 = .ok (.bipush 40, 2) := by decide +kernel
theorem dM_rule_47 : decode cM_rule 47 = .ok (.if_icmp .ne 9, 3) := by decide +kernel
theorem dM_rule_50 : decode cM_rule 50 = .ok (.aload_n 0, 1) := by decide +kernel
theorem dM_rule_51 : decode cM_rule 51 = .ok (.iconst 3, 1) := by decide +kernel
theorem dM_rule_52 : decode cM_rule 52 = .ok (.invokevirtual 77, 3) := by decide +kernel
theorem dM_rule_55 : decode cM_rule 55 = .ok (.ireturn, 1) := by decide +kernel
theorem dM_rule_56 : decode cM_rule 56 = .ok (.aload_n 0, 1) := by decide +kernel
theorem dM_rule_57 : decode cM_rule 57 = .ok (.getfield 35, 3) := by decide +kernel
theorem dM_rule_60 : decode cM_rule 60 = .ok (.aload_n 0, 1) := by decide +kernel
theorem dM_rule_61 : decode cM_rule 61 = .ok (.getfield 103, 3) := by decide +kernel
theorem dM_rule_64 : decode cM_rule 64 = .ok (.iload_n 1, 1) := by decide +kernel
theorem dM_rule_65 : decode cM_rule 65 = .ok (.iastore, 1) := by decide +kernel
theorem dM_rule_66 : decode cM_rule 66 = .ok (.aload_n 0, 1) := by decide +kernel
theorem dM_rule_67 : decode cM_rule 67 = .ok (.getfield 38, 3) := by decide +kernel
theorem dM_rule_70 : decode cM_rule 70 = .ok (.aload_n 0, 1) := by decide +kernel
theorem dM_rule_71 : decode cM_rule 71 = .ok (.getfield 103, 3) := by decide +kernel
theorem dM_rule_74 : decode cM_rule 74 = .ok (.iload_n 2, 1) := by decide +kernel
theorem dM_rule_75 : decode cM_rule 75 = .ok (.iastore, 1) := by decide +kernel
theorem dM_rule_76 : decode cM_rule 76 = .ok (.aload_n 0, 1) := by decide +kernel
theorem dM_rule_77 : decode cM_rule 77 = .ok (.getfield 41, 3) := by decide +kernel
theorem dM_rule_80 : decode cM_rule 80 = .ok (.aload_n 0, 1) := by decide +kernel
theorem dM_rule_81 : decode cM_rule 81 = .ok (.getfield 103, 3) := by decide +kernel
theorem dM_rule_84 : decode cM_rule 84 = .ok (.iload_n 3, 1) := by decide +kernel
theorem dM_rule_85 : decode cM_rule 85 = .ok (.iastore, 1) := by decide +kernel
theorem dM_rule_86 : decode cM_rule 86 = .ok (.aload_n 0, 1) := by decide +kernel
theorem dM_rule_87 : decode cM_rule 87 = .ok (.getfield 44, 3) := by decide +kernel
theorem dM_rule_90 : decode cM_rule 90 = .ok (.aload_n 0, 1) := by decide +kernel
theorem dM_rule_91 : decode cM_rule 91 = .ok (.getfield 103, 3) := by decide +kernel
theorem dM_rule_94 : decode cM_rule 94 = .ok (.iload 4, 2) := by decide +kernel
theorem dM_rule_96 : decode cM_rule 96 = .ok (.iastore, 1) := by decide +kernel
theorem dM_rule_97 : decode cM_rule 97 = .ok (.aload_n 0, 1) := by decide +kernel
theorem dM_rule_98 : decode cM_rule 98 = .ok (.dup, 1) := by decide +kernel
theorem dM_rule_99 : decode cM_rule 99 = .ok (.getfield 103, 3) := by decide +kernel
theorem dM_rule_102 : decode cM_rule 102 = .ok (.iconst 1, 1) := by decide +kernel
theorem dM_rule_103 : decode cM_rule 103 = .ok (.iadd, 1) := by decide +kernel
theorem dM_rule_104 : decode cM_rule 104 = .ok (.putfield 103, 3) := by decide +kernel
theorem dM_rule_107 : decode cM_rule 107 = .ok (.aload_n 0, 1) := by decide +kernel
theorem dM_rule_108 : decode cM_rule 108 = .ok (.iconst 0, 1) := by decide +kernel
theorem dM_rule_109 : decode cM_rule 109 = .ok (.putfield 90, 3) := by decide +kernel
theorem dM_rule_112 : decode cM_rule 112 = .ok (.aload_n 0, 1) := by decide +kernel
theorem dM_rule_113 : decode cM_rule 113 = .ok (.getfield 103, 3) := by decide +kernel
theorem dM_rule_116 : decode cM_rule 116 = .ok (.ireturn, 1) := by decide +kernel
theorem dM_limit_0 : decode cM_limit 0 = .ok (.aload_n 0, 1) := by decide +kernel
theorem dM_limit_1 : decode cM_limit 1 = .ok (.iload_n 1, 1) := by decide +kernel
theorem dM_limit_2 : decode cM_limit 2 = .ok (.iconst 0, 1) := by decide +kernel
theorem dM_limit_3 : decode cM_limit 3 = .ok (.iconst 3, 1) := by decide +kernel
theorem dM_limit_4 : decode cM_limit 4 = .ok (.invokestatic 73, 3) := by decide +kernel
theorem dM_limit_7 : decode cM_limit 7 = .ok (.ifCond .eq 7, 3) := by decide +kernel
theorem dM_limit_10 : decode cM_limit 10 = .ok (.iconst 0, 1) := by decide +kernel
theorem dM_limit_11 : decode cM_limit 11 = .ok (.goto 4, 3) := by decide +kernel
theorem dM_limit_14 : decode cM_limit 14 = .ok (.iconst 1, 1) := by decide +kernel
theorem dM_limit_15 : decode cM_limit 15 = .ok (.putfield 70, 3) := by decide +kernel
theorem dM_limit_18 : decode cM_limit 18 = .ok (.aload_n 0, 1) := by decide +kernel
theorem dM_limit_19 : decode cM_limit 19 = .ok (.getfield 70, 3) := by decide +kernel
theorem dM_limit_22 : decode cM_limit 22 = .ok (.ifCond .le 5, 3) := by decide +kernel
theorem dM_limit_25 : decode cM_limit 25 = .ok (.iconst 0, 1) := by decide +kernel
theorem dM_limit_26 : decode cM_limit 26 = .ok (.ireturn, 1) := by decide +kernel
theorem dM_limit_27 : decode cM_limit 27 = .ok (.aload_n 0, 1) := by decide +kernel
theorem dM_limit_28 : decode cM_limit 28 = .ok (.getfield 47, 3) := by decide +kernel
theorem dM_limit_31 : decode cM_limit 31 = .ok (.iload_n 1, 1) := by decide +kernel
theorem dM_limit_32 : decode cM_limit 32 = .ok (.baload, 1) := by decide +kernel
theorem dM_limit_33 : decode cM_limit 33 = .ok (.istore 4, 2) := by decide +kernel
theorem dM_limit_35 : decode cM_limit 35 = .ok (.aload_n 0, 1) := by decide +kernel
theorem dM_limit_36 : decode cM_limit 36 = .ok (.getfield 47, 3) := by decide +kernel
theorem dM_limit_39 : decode cM_limit 39 = .ok (.iload_n 1, 1) := by decide +kernel
theorem dM_limit_40 : decode cM_limit 40 = .ok (.iload_n 2, 1) := by decide +kernel
theorem dM_limit_41 : decode cM_limit 41 = .ok (.bastore, 1) := by decide +kernel
theorem dM_limit_42 : decode cM_limit 42 = .ok (.aload_n 0, 1) := by decide +kernel
theorem dM_limit_43 : decode cM_limit 43 = .ok (.getfield 51, 3) := by decide +kernel
theorem dM_limit_46 : decode cM_limit 46 = .ok (.iload_n 1, 1) := by decide +kernel
theorem dM_limit_47 : decode cM_limit 47 = .ok (.iload_n 3, 1) := by decide +kernel
theorem dM_limit_48 : decode cM_limit 48 = .ok (.iastore, 1) := by decide +kernel
theorem dM_limit_49 : decode cM_limit 49 = .ok (.aload_n 0, 1) := by decide +kernel
theorem dM_limit_50 : decode cM_limit 50 = .ok (.iconst 0, 1) := by decide +kernel
theorem dM_limit_51 : decode cM_limit 51 = .ok (.putfield 90, 3) := by decide +kernel
theorem dM_limit_54 : decode cM_limit 54 = .ok (.iload 4, 2) := by decide +kernel
theorem dM_limit_56 : decode cM_limit 56 = .ok (.ireturn, 1) := by decide +kernel
theorem dM_open_0 : decode cM_open 0 = .ok (.iload_n 1, 1) := by decide +kernel
theorem dM_open_1 : decode cM_open 1 = .ok (.istore_n 3, 1) := by decide +kernel
theorem dM_open_2 : decode cM_open 2 = .ok (.aload_n 0, 1) := by decide +kernel
theorem dM_open_3 : decode cM_open 3 = .ok (.getfield 81, 3) := by decide +kernel
theorem dM_open_6 : decode cM_open 6 = .ok (.iconst 1, 1) := by decide +kernel
theorem dM_open_7 : decode cM_open 7 = .ok (.isub, 1) := by decide +kernel
theorem dM_open_8 : decode cM_open 8 = .ok (.istore 4, 2) := by decide +kernel
theorem dM_open_10 : decode cM_open 10 = .ok (.iload 4, 2) := by decide +kernel
theorem dM_open_12 : decode cM_open 12 = .ok (.ifCond .lt 45, 3) := by decide +kernel
theorem dM_open_15 : decode cM_open 15 = .ok (.aload_n 0, 1) := by decide +kernel
theorem dM_open_16 : decode cM_open 16 = .ok (.getfield 54, 3) := by decide +kernel
theorem dM_open_19 : decode cM_open 19 = .ok (.iload 4, 2) := by decide +kernel
theorem dM_open_21 : decode cM_open 21 = .ok (.iload 4, 2) := by decide +kernel
theorem dM_open_23 : decode cM_open 23 = .ok (.iload_n 2, 1) := by decide +kernel
theorem dM_open_24 : decode cM_open 24 = .ok (.if_icmp .ge 15, 3) := by decide +kernel
theorem dM_open_27 : decode cM_open 27 = .ok (.iload_n 3, 1) := by decide +kernel
theorem dM_open_28 : decode cM_open 28 = .ok (.aload_n 0, 1) := by decide +kernel
theorem dM_open_29 : decode cM_open 29 = .ok (.getfield 13, 3) := by decide +kernel
theorem dM_open_32 : decode cM_open 32 = .ok (.iload 4, 2) := by decide +kernel
theorem dM_open_34 : decode cM_open 34 = .ok (.iaload, 1) := by decide +kernel
theorem dM_open_35 : decode cM_open 35 = .ok (.irem, 1) := by decide +kernel
theorem dM_open_36 : decode cM_open 36 = .ok (.goto 4, 3) := by decide +kernel
theorem dM_open_39 : decode cM_open 39 = .ok (.iconst (-1), 1) := by decide +kernel
theorem dM_open_40 : decode cM_open 40 = .ok (.iastore, 1) := by decide +kernel
theorem dM_open_41 : decode cM_open 41 = .ok (.iload_n 3, 1) := by decide +kernel
theorem dM_open_42 : decode cM_open 42 = .ok (.aload_n 0, 1) := by decide +kernel
theorem dM_open_43 : decode cM_open 43 = .ok (.getfield 13, 3) := by decide +kernel
theorem dM_open_46 : decode cM_open 46 = .ok (.iload 4, 2) := by decide +kernel
theorem dM_open_48 : decode cM_open 48 = .ok (.iaload, 1) := by decide +kernel
theorem dM_open_49 : decode cM_open 49 = .ok (.idiv, 1) := by decide +kernel
theorem dM_open_50 : decode cM_open 50 = .ok (.istore_n 3, 1) := by decide +kernel
theorem dM_open_51 : decode cM_open 51 = .ok (.iinc 4 (-1), 3) := by decide +kernel
theorem dM_open_54 : decode cM_open 54 = .ok (.goto (-44), 3) := by decide +kernel
theorem dM_open_57 : decode cM_open 57 = .ok (.return_, 1) := by decide +kernel
theorem dM_closed_0 : decode cM_closed 0 = .ok (.iconst 0, 1) := by decide +kernel
theorem dM_closed_1 : decode cM_closed 1 = .ok (.istore_n 1, 1) := by decide +kernel
theorem dM_closed_2 : decode cM_closed 2 = .ok (.iconst 0, 1) := by decide +kernel
theorem dM_closed_3 : decode cM_closed 3 = .ok (.istore_n 2, 1) := by decide +kernel
theorem dM_closed_4 : decode cM_closed 4 = .ok (.iload_n 2, 1) := by decide +kernel
theorem dM_closed_5 : decode cM_closed 5 = .ok (.aload_n 0, 1) := by decide +kernel
theorem dM_closed_6 : decode cM_closed 6 = .ok (.getfield 81, 3) := by decide +kernel
theorem dM_closed_9 : decode cM_closed 9 = .ok (.if_icmp .ge 25, 3) := by decide +kernel
theorem dM_closed_12 : decode cM_closed 12 = .ok (.iload_n 1, 1) := by decide +kernel
theorem dM_closed_13 : decode cM_closed 13 = .ok (.aload_n 0, 1) := by decide +kernel
theorem dM_closed_14 : decode cM_closed 14 = .ok (.getfield 13, 3) := by decide +kernel
theorem dM_closed_17 : decode cM_closed 17 = .ok (.iload_n 2, 1) := by decide +kernel
theorem dM_closed_18 : decode cM_closed 18 = .ok (.iaload, 1) := by decide +kernel
theorem dM_closed_19 : decode cM_closed 19 = .ok (.imul, 1) := by decide +kernel
