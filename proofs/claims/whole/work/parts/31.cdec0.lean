theorem dX_init_0 : decode cX_init 0 = .ok (.aload_n 0, 1) := by decide +kernel
theorem dX_init_1 : decode cX_init 1 = .ok (.invokespecial 3, 3) := by decide +kernel
theorem dX_init_4 : decode cX_init 4 = .ok (.aload_n 0, 1) := by decide +kernel
theorem dX_init_5 : decode cX_init 5 = .ok (.new 9, 3) := by decide +kernel
theorem dX_init_8 : decode cX_init 8 = .ok (.dup, 1) := by decide +kernel
theorem dX_init_9 : decode cX_init 9 = .ok (.invokespecial 11, 3) := by decide +kernel
theorem dX_init_12 : decode cX_init 12 = .ok (.putfield 12, 3) := by decide +kernel
theorem dX_init_15 : decode cX_init 15 = .ok (.aload_n 0, 1) := by decide +kernel
theorem dX_init_16 : decode cX_init 16 = .ok (.new 16, 3) := by decide +kernel
theorem dX_init_19 : decode cX_init 19 = .ok (.dup, 1) := by decide +kernel
theorem dX_init_20 : decode cX_init 20 = .ok (.aload_n 0, 1) := by decide +kernel
theorem dX_init_21 : decode cX_init 21 = .ok (.getfield 12, 3) := by decide +kernel
theorem dX_init_24 : decode cX_init 24 = .ok (.invokespecial 18, 3) := by decide +kernel
theorem dX_init_27 : decode cX_init 27 = .ok (.putfield 21, 3) := by decide +kernel
theorem dX_init_30 : decode cX_init 30 = .ok (.aload_n 0, 1) := by decide +kernel
theorem dX_init_31 : decode cX_init 31 = .ok (.new 25, 3) := by decide +kernel
theorem dX_init_34 : decode cX_init 34 = .ok (.dup, 1) := by decide +kernel
theorem dX_init_35 : decode cX_init 35 = .ok (.aload_n 0, 1) := by decide +kernel
theorem dX_init_36 : decode cX_init 36 = .ok (.getfield 12, 3) := by decide +kernel
theorem dX_init_39 : decode cX_init 39 = .ok (.aload_n 0, 1) := by decide +kernel
theorem dX_init_40 : decode cX_init 40 = .ok (.getfield 21, 3) := by decide +kernel
theorem dX_init_43 : decode cX_init 43 = .ok (.invokespecial 27, 3) := by decide +kernel
theorem dX_init_46 : decode cX_init 46 = .ok (.putfield 30, 3) := by decide +kernel
theorem dX_init_49 : decode cX_init 49 = .ok (.aload_n 0, 1) := by decide +kernel
theorem dX_init_50 : decode cX_init 50 = .ok (.new 34, 3) := by decide +kernel
theorem dX_init_53 : decode cX_init 53 = .ok (.dup, 1) := by decide +kernel
theorem dX_init_54 : decode cX_init 54 = .ok (.aload_n 0, 1) := by decide +kernel
theorem dX_init_55 : decode cX_init 55 = .ok (.getfield 12, 3) := by decide +kernel
theorem dX_init_58 : decode cX_init 58 = .ok (.aload_n 0, 1) := by decide +kernel
theorem dX_init_59 : decode cX_init 59 = .ok (.getfield 21, 3) := by decide +kernel
theorem dX_init_62 : decode cX_init 62 = .ok (.invokespecial 36, 3) := by decide +kernel
theorem dX_init_65 : decode cX_init 65 = .ok (.putfield 37, 3) := by decide +kernel
theorem dX_init_68 : decode cX_init 68 = .ok (.aload_n 0, 1) := by decide +kernel
theorem dX_init_69 : decode cX_init 69 = .ok (.new 41, 3) := by decide +kernel
theorem dX_init_72 : decode cX_init 72 = .ok (.dup, 1) := by decide +kernel
theorem dX_init_73 : decode cX_init 73 = .ok (.aload_n 0, 1) := by decide +kernel
theorem dX_init_74 : decode cX_init 74 = .ok (.getfield 12, 3) := by decide +kernel
theorem dX_init_77 : decode cX_init 77 = .ok (.aload_n 0, 1) := by decide +kernel
theorem dX_init_78 : decode cX_init 78 = .ok (.getfield 21, 3) := by decide +kernel
theorem dX_init_81 : decode cX_init 81 = .ok (.iload_n 1, 1) := by decide +kernel
theorem dX_init_82 : decode cX_init 82 = .ok (.ldc 43, 2) := by decide +kernel
theorem dX_init_84 : decode cX_init 84 = .ok (.iand, 1) := by decide +kernel
theorem dX_init_85 : decode cX_init 85 = .ok (.invokespecial 44, 3) := by decide +kernel
theorem dX_init_88 : decode cX_init 88 = .ok (.putfield 47, 3) := by decide +kernel
theorem dX_init_91 : decode cX_init 91 = .ok (.aload_n 0, 1) := by decide +kernel
theorem dX_init_92 : decode cX_init 92 = .ok (.new 51, 3) := by decide +kernel
theorem dX_init_95 : decode cX_init 95 = .ok (.dup, 1) := by decide +kernel
theorem dX_init_96 : decode cX_init 96 = .ok (.aload_n 0, 1) := by decide +kernel
theorem dX_init_97 : decode cX_init 97 = .ok (.getfield 12, 3) := by decide +kernel
theorem dX_init_100 : decode cX_init 100 = .ok (.aload_n 0, 1) := by decide +kernel
theorem dX_init_101 : decode cX_init 101 = .ok (.getfield 21, 3) := by decide +kernel
theorem dX_init_104 : decode cX_init 104 = .ok (.invokespecial 53, 3) := by decide +kernel
theorem dX_init_107 : decode cX_init 107 = .ok (.putfield 54, 3) := by decide +kernel
theorem dX_init_110 : decode cX_init 110 = .ok (.return_, 1) := by decide +kernel
theorem dX_choice_0 : decode cX_choice 0 = .ok (.iload_n 1, 1) := by decide +kernel
theorem dX_choice_1 : decode cX_choice 1 = .ok (.iconst 2, 1) := by decide +kernel
theorem dX_choice_2 : decode cX_choice 2 = .ok (.if_icmp .lt 9, 3) := by decide +kernel
theorem dX_choice_5 : decode cX_choice 5 = .ok (.iload_n 1, 1) := by decide +kernel
theorem dX_choice_6 : decode cX_choice 6 = .ok (.bipush 6, 2) := by decide +kernel
theorem dX_choice_8 : decode cX_choice 8 = .ok (.if_icmp .le 13, 3) := by decide +kernel
theorem dX_choice_11 : decode cX_choice 11 = .ok (.new 58, 3) := by decide +kernel
theorem dX_choice_14 : decode cX_choice 14 = .ok (.dup, 1) := by decide +kernel
theorem dX_choice_15 : decode cX_choice 15 = .ok (.ldc 60, 2) := by decide +kernel
theorem dX_choice_17 : decode cX_choice 17 = .ok (.invokespecial 62, 3) := by decide +kernel
theorem dX_choice_20 : decode cX_choice 20 = .ok (.athrow, 1) := by decide +kernel
theorem dX_choice_21 : decode cX_choice 21 = .ok (.aload_n 0, 1) := by decide +kernel
theorem dX_choice_22 : decode cX_choice 22 = .ok (.getfield 12, 3) := by decide +kernel
theorem dX_choice_25 : decode cX_choice 25 = .ok (.iload_n 1, 1) := by decide +kernel
theorem dX_choice_26 : decode cX_choice 26 = .ok (.invokevirtual 65, 3) := by decide +kernel
theorem dX_choice_29 : decode cX_choice 29 = .ok (.ifCond .ne 13, 3) := by decide +kernel
theorem dX_choice_32 : decode cX_choice 32 = .ok (.new 69, 3) := by decide +kernel
theorem dX_choice_35 : decode cX_choice 35 = .ok (.dup, 1) := by decide +kernel
theorem dX_choice_36 : decode cX_choice 36 = .ok (.ldc 71, 2) := by decide +kernel
theorem dX_choice_38 : decode cX_choice 38 = .ok (.invokespecial 73, 3) := by decide +kernel
theorem dX_choice_41 : decode cX_choice 41 = .ok (.athrow, 1) := by decide +kernel
theorem dX_choice_42 : decode cX_choice 42 = .ok (.aload_n 0, 1) := by decide +kernel
theorem dX_choice_43 : decode cX_choice 43 = .ok (.getfield 21, 3) := by decide +kernel
theorem dX_choice_46 : decode cX_choice 46 = .ok (.iload_n 1, 1) := by decide +kernel
theorem dX_choice_47 : decode cX_choice 47 = .ok (.invokevirtual 74, 3) := by decide +kernel
theorem dX_choice_50 : decode cX_choice 50 = .ok (.aload_n 0, 1) := by decide +kernel
theorem dX_choice_51 : decode cX_choice 51 = .ok (.getfield 12, 3) := by decide +kernel
theorem dX_choice_54 : decode cX_choice 54 = .ok (.iload_n 1, 1) := by decide +kernel
theorem dX_choice_55 : decode cX_choice 55 = .ok (.invokevirtual 78, 3) := by decide +kernel
theorem dX_choice_58 : decode cX_choice 58 = .ok (.aload_n 0, 1) := by decide +kernel
theorem dX_choice_59 : decode cX_choice 59 = .ok (.getfield 54, 3) := by decide +kernel
theorem dX_choice_62 : decode cX_choice 62 = .ok (.invokevirtual 81, 3) := by decide +kernel
theorem dX_choice_65 : decode cX_choice 65 = .ok (.aload_n 0, 1) := by decide +kernel
theorem dX_choice_66 : decode cX_choice 66 = .ok (.getfield 30, 3) := by decide +kernel
theorem dX_choice_69 : decode cX_choice 69 = .ok (.invokevirtual 84, 3) := by decide +kernel
theorem dX_choice_72 : decode cX_choice 72 = .ok (.aload_n 0, 1) := by decide +kernel
theorem dX_choice_73 : decode cX_choice 73 = .ok (.getfield 12, 3) := by decide +kernel
theorem dX_choice_76 : decode cX_choice 76 = .ok (.getfield 87, 3) := by decide +kernel
theorem dX_choice_79 : decode cX_choice 79 = .ok (.iconst 1, 1) := by decide +kernel
theorem dX_choice_80 : decode cX_choice 80 = .ok (.isub, 1) := by decide +kernel
theorem dX_choice_81 : decode cX_choice 81 = .ok (.ireturn, 1) := by decide +kernel
theorem dX_term_0 : decode cX_term 0 = .ok (.iload 4, 2) := by decide +kernel
theorem dX_term_2 : decode cX_term 2 = .ok (.iconst (-1), 1) := by decide +kernel
theorem dX_term_3 : decode cX_term 3 = .ok (.if_icmp .ne 7, 3) := by decide +kernel
theorem dX_term_6 : decode cX_term 6 = .ok (.iconst 1, 1) := by decide +kernel
theorem dX_term_7 : decode cX_term 7 = .ok (.goto 4, 3) := by decide +kernel
theorem dX_term_10 : decode cX_term 10 = .ok (.iconst 0, 1) := by decide +kernel
theorem dX_term_11 : decode cX_term 11 = .ok (.istore 7, 2) := by decide +kernel
theorem dX_term_13 : decode cX_term 13 = .ok (.iload_n 1, 1) := by decide +kernel
theorem dX_term_14 : decode cX_term 14 = .ok (.invokestatic 91, 3) := by decide +kernel
theorem dX_term_17 : decode cX_term 17 = .ok (.ifCond .eq 34, 3) := by decide +kernel
theorem dX_term_20 : decode cX_term 20 = .ok (.aload_n 0, 1) := by decide +kernel
theorem dX_term_21 : decode cX_term 21 = .ok (.getfield 12, 3) := by decide +kernel
theorem dX_term_24 : decode cX_term 24 = .ok (.iload_n 2, 1) := by decide +kernel
theorem dX_term_25 : decode cX_term 25 = .ok (.iload_n 3, 1) := by decide +kernel
theorem dX_term_26 : decode cX_term 26 = .ok (.invokevirtual 94, 3) := by decide +kernel
theorem dX_term_29 : decode cX_term 29 = .ok (.ifCond .eq 22, 3) := by decide +kernel
theorem dX_term_32 : decode cX_term 32 = .ok (.iload 7, 2) := by decide +kernel
theorem dX_term_34 : decode cX_term 34 = .ok (.ifCond .ne 27, 3) := by decide +kernel
theorem dX_term_37 : decode cX_term 37 = .ok (.aload_n 0, 1) := by decide +kernel
theorem dX_term_38 : decode cX_term 38 = .ok (.getfield 12, 3) := by decide +kernel
theorem dX_term_41 : decode cX_term 41 = .ok (.iload 4, 2) := by decide +kernel
theorem dX_term_43 : decode cX_term 43 = .ok (.iload 5, 2) := by decide +kernel
theorem dX_term_45 : decode cX_term 45 = .ok (.invokevirtual 94, 3) := by decide +kernel
theorem dX_term_48 : decode cX_term 48 = .ok (.ifCond .ne 13, 3) := by decide +kernel
theorem dX_term_51 : decode cX_term 51 = .ok (.new 98, 3) := by decide +kernel
theorem dX_term_54 : decode cX_term 54 = .ok (.dup, 1) := by decide +kernel
theorem dX_term_55 : decode cX_term 55 = .ok (.ldc 100, 2) := by decide +kernel
theorem dX_term_57 : decode cX_term 57 = .ok (.invokespecial 102, 3) := by decide +kernel
theorem dX_term_60 : decode cX_term 60 = .ok (.athrow, 1) := by decide +kernel
theorem dX_term_61 : decode cX_term 61 = .ok (.iload_n 2, 1) := by decide +kernel
theorem dX_term_62 : decode cX_term 62 = .ok (.iload 4, 2) := by decide +kernel
theorem dX_term_64 : decode cX_term 64 = .ok (.if_icmp .eq 17, 3) := by decide +kernel
theorem dX_term_67 : decode cX_term 67 = .ok (.iload 6, 2) := by decide +kernel
theorem dX_term_69 : decode cX_term 69 = .ok (.ldc 103, 2) := by decide +kernel
theorem dX_term_71 : decode cX_term 71 = .ok (.if_icmp .lt 10, 3) := by decide +kernel
theorem dX_term_74 : decode cX_term 74 = .ok (.iload 6, 2) := by decide +kernel
theorem dX_term_76 : decode cX_term 76 = .ok (.ldc 104, 2) := by decide +kernel
theorem dX_term_78 : decode cX_term 78 = .ok (.if_icmp .le 13, 3) := by decide +kernel
theorem dX_term_81 : decode cX_term 81 = .ok (.new 58, 3) := by decide +kernel
theorem dX_term_84 : decode cX_term 84 = .ok (.dup, 1) := by decide +kernel
theorem dX_term_85 : decode cX_term 85 = .ok (.ldc 105, 2) := by decide +kernel
theorem dX_term_87 : decode cX_term 87 = .ok (.invokespecial 62, 3) := by decide +kernel
theorem dX_term_90 : decode cX_term 90 = .ok (.athrow, 1) := by decide +kernel
theorem dX_term_91 : decode cX_term 91 = .ok (.aload_n 0, 1) := by decide +kernel
theorem dX_term_92 : decode cX_term 92 = .ok (.getfield 21, 3) := by decide +kernel
theorem dX_term_95 : decode cX_term 95 = .ok (.getfield 107, 3) := by decide +kernel
theorem dX_term_98 : decode cX_term 98 = .ok (.bipush 100, 2) := by decide +kernel
theorem dX_term_100 : decode cX_term 100 = .ok (.if_icmp .lt 13, 3) := by decide +kernel
theorem dX_term_103 : decode cX_term 103 = .ok (.new 69, 3) := by decide +kernel
theorem dX_term_106 : decode cX_term 106 = .ok (.dup, 1) := by decide +kernel
theorem dX_term_107 : decode cX_term 107 = .ok (.ldc 110, 2) := by decide +kernel
theorem dX_term_109 : decode cX_term 109 = .ok (.invokespecial 73, 3) := by decide +kernel
theorem dX_term_112 : decode cX_term 112 = .ok (.athrow, 1) := by decide +kernel
theorem dX_term_113 : decode cX_term 113 = .ok (.aload_n 0, 1) := by decide +kernel
theorem dX_term_114 : decode cX_term 114 = .ok (.getfield 21, 3) := by decide +kernel
theorem dX_term_117 : decode cX_term 117 = .ok (.iload_n 1, 1) := by decide +kernel
theorem dX_term_118 : decode cX_term 118 = .ok (.iload_n 2, 1) := by decide +kernel
theorem dX_term_119 : decode cX_term 119 = .ok (.iload_n 3, 1) := by decide +kernel
theorem dX_term_120 : decode cX_term 120 = .ok (.iload 4, 2) := by decide +kernel
theorem dX_term_122 : decode cX_term 122 = .ok (.iload 5, 2) := by decide +kernel
theorem dX_term_124 : decode cX_term 124 = .ok (.iload 6, 2) := by decide +kernel
theorem dX_term_126 : decode cX_term 126 = .ok (.invokevirtual 112, 3) := by decide +kernel
theorem dX_term_129 : decode cX_term 129 = .ok (.aload_n 0, 1) := by decide +kernel
theorem dX_term_130 : decode cX_term 130 = .ok (.getfield 30, 3) := by decide +kernel
theorem dX_term_133 : decode cX_term 133 = .ok (.invokevirtual 84, 3) := by decide +kernel
theorem dX_term_136 : decode cX_term 136 = .ok (.aload_n 0, 1) := by decide +kernel
theorem dX_term_137 : decode cX_term 137 = .ok (.getfield 21, 3) := by decide +kernel
theorem dX_term_140 : decode cX_term 140 = .ok (.getfield 107, 3) := by decide +kernel
theorem dX_term_143 : decode cX_term 143 = .ok (.ireturn, 1) := by decide +kernel
theorem dX_rule_0 : decode cX_rule 0 = .ok (.aload_n 0, 1) := by decide +kernel
theorem dX_rule_1 : decode cX_rule 1 = .ok (.getfield 12, 3) := by decide +kernel
theorem dX_rule_4 : decode cX_rule 4 = .ok (.iload_n 1, 1) := by decide +kernel
theorem dX_rule_5 : decode cX_rule 5 = .ok (.iload_n 2, 1) := by decide +kernel
theorem dX_rule_6 : decode cX_rule 6 = .ok (.invokevirtual 94, 3) := by decide +kernel
theorem dX_rule_9 : decode cX_rule 9 = .ok (.ifCond .eq 16, 3) := by decide +kernel
theorem dX_rule_12 : decode cX_rule 12 = .ok (.aload_n 0, 1) := by decide +kernel
theorem dX_rule_13 : decode cX_rule 13 = .ok (.getfield 12, 3) := by decide +kernel
theorem dX_rule_16 : decode cX_rule 16 = .ok (.iload_n 3, 1) := by decide +kernel
theorem dX_rule_17 : decode cX_rule 17 = .ok (.iload 4, 2) := by decide +kernel
theorem dX_rule_19 : decode cX_rule 19 = .ok (.invokevirtual 94, 3) := by decide +kernel
theorem dX_rule_22 : decode cX_rule 22 = .ok (.ifCond .ne 13, 3) := by decide +kernel
theorem dX_rule_25 : decode cX_rule 25 = .ok (.new 98, 3) := by decide +kernel
theorem dX_rule_28 : decode cX_rule 28 = .ok (.dup, 1) := by decide +kernel
theorem dX_rule_29 : decode cX_rule 29 = .ok (.ldc 116, 2) := by decide +kernel
theorem dX_rule_31 : decode cX_rule 31 = .ok (.invokespecial 102, 3) := by decide +kernel
theorem dX_rule_34 : decode cX_rule 34 = .ok (.athrow, 1) := by decide +kernel
theorem dX_rule_35 : decode cX_rule 35 = .ok (.iload_n 1, 1) := by decide +kernel
theorem dX_rule_36 : decode cX_rule 36 = .ok (.iload_n 3, 1) := by decide +kernel
theorem dX_rule_37 : decode cX_rule 37 = .ok (.if_icmp .ne 13, 3) := by decide +kernel
theorem dX_rule_40 : decode cX_rule 40 = .ok (.new 58, 3) := by decide +kernel
theorem dX_rule_43 : decode cX_rule 43 = .ok (.dup, 1) := by decide +kernel
theorem dX_rule_44 : decode cX_rule 44 = .ok (.ldc 118, 2) := by decide +kernel
theorem dX_rule_46 : decode cX_rule 46 = .ok (.invokespecial 62, 3) := by decide +kernel
theorem dX_rule_49 : decode cX_rule 49 = .ok (.athrow, 1) := by decide +kernel
theorem dX_rule_50 : decode cX_rule 50 = .ok (.aload_n 0, 1) := by decide +kernel
theorem dX_rule_51 : decode cX_rule 51 = .ok (.getfield 21, 3) := by decide +kernel
theorem dX_rule_54 : decode cX_rule 54 = .ok (.getfield 120, 3) := by decide +kernel
theorem dX_rule_57 : decode cX_rule 57 = .ok (.bipush 40, 2) := by decide +kernel
theorem dX_rule_59 : decode cX_rule 59 = .ok (.if_icmp .lt 13, 3) := by decide +kernel
theorem dX_rule_62 : decode cX_rule 62 = .ok (.new 69, 3) := by decide +kernel
theorem dX_rule_65 : decode cX_rule 65 = .ok (.dup, 1) := by decide +kernel
theorem dX_rule_66 : decode cX_rule 66 = .ok (.ldc 123, 2) := by decide +kernel
theorem dX_rule_68 : decode cX_rule 68 = .ok (.invokespecial 73, 3) := by decide +kernel
theorem dX_rule_71 : decode cX_rule 71 = .ok (.athrow, 1) := by decide +kernel
theorem dX_rule_72 : decode cX_rule 72 = .ok (.aload_n 0, 1) := by decide +kernel
theorem dX_rule_73 : decode cX_rule 73 = .ok (.getfield 21, 3) := by decide +kernel
theorem dX_rule_76 : decode cX_rule 76 = .ok (.iload_n 1, 1) := by decide +kernel
theorem dX_rule_77 : decode cX_rule 77 = .ok (.iload_n 2, 1) := by decide +kernel
theorem dX_rule_78 : decode cX_rule 78 = .ok (.iload_n 3, 1) := by decide +kernel
theorem dX_rule_79 : decode cX_rule 79 = .ok (.iload 4, 2) := by decide +kernel
theorem dX_rule_81 : decode cX_rule 81 = .ok (.invokevirtual 125, 3) := by decide +kernel
theorem dX_rule_84 : decode cX_rule 84 = .ok (.aload_n 0, 1) := by decide +kernel
theorem dX_rule_85 : decode cX_rule 85 = .ok (.getfield 30, 3) := by decide +kernel
theorem dX_rule_88 : decode cX_rule 88 = .ok (.invokevirtual 84, 3) := by decide +kernel
theorem dX_rule_91 : decode cX_rule 91 = .ok (.aload_n 0, 1) := by decide +kernel
theorem dX_rule_92 : decode cX_rule 92 = .ok (.getfield 21, 3) := by decide +kernel
theorem dX_rule_95 : decode cX_rule 95 = .ok (.getfield 120, 3) := by decide +kernel
theorem dX_rule_98 : decode cX_rule 98 = .ok (.ireturn, 1) := by decide +kernel
theorem dX_limit_0 : decode cX_limit 0 = .ok (.iload_n 1, 1) := by decide +kernel
theorem dX_limit_1 : decode cX_limit 1 = .ok (.invokestatic 91, 3) := by decide +kernel
theorem dX_limit_4 : decode cX_limit 4 = .ok (.ifCond .ne 13, 3) := by decide +kernel
theorem dX_limit_7 : decode cX_limit 7 = .ok (.new 98, 3) := by decide +kernel
theorem dX_limit_10 : decode cX_limit 10 = .ok (.dup, 1) := by decide +kernel
theorem dX_limit_11 : decode cX_limit 11 = .ok (.ldc 129, 2) := by decide +kernel
theorem dX_limit_13 : decode cX_limit 13 = .ok (.invokespecial 102, 3) := by decide +kernel
theorem dX_limit_16 : decode cX_limit 16 = .ok (.athrow, 1) := by decide +kernel
theorem dX_limit_17 : decode cX_limit 17 = .ok (.aload_n 0, 1) := by decide +kernel
theorem dX_limit_18 : decode cX_limit 18 = .ok (.getfield 21, 3) := by decide +kernel
theorem dX_limit_21 : decode cX_limit 21 = .ok (.getfield 131, 3) := by decide +kernel
theorem dX_limit_24 : decode cX_limit 24 = .ok (.iload_n 1, 1) := by decide +kernel
theorem dX_limit_25 : decode cX_limit 25 = .ok (.baload, 1) := by decide +kernel
theorem dX_limit_26 : decode cX_limit 26 = .ok (.istore 4, 2) := by decide +kernel
theorem dX_limit_28 : decode cX_limit 28 = .ok (.aload_n 0, 1) := by decide +kernel
theorem dX_limit_29 : decode cX_limit 29 = .ok (.getfield 21, 3) := by decide +kernel
theorem dX_limit_32 : decode cX_limit 32 = .ok (.getfield 131, 3) := by decide +kernel
theorem dX_limit_35 : decode cX_limit 35 = .ok (.iload_n 1, 1) := by decide +kernel
theorem dX_limit_36 : decode cX_limit 36 = .ok (.iload_n 2, 1) := by decide +kernel
theorem dX_limit_37 : decode cX_limit 37 = .ok (.bastore, 1) := by decide +kernel
theorem dX_limit_38 : decode cX_limit 38 = .ok (.aload_n 0, 1) := by decide +kernel
theorem dX_limit_39 : decode cX_limit 39 = .ok (.getfield 21, 3) := by decide +kernel
theorem dX_limit_42 : decode cX_limit 42 = .ok (.getfield 135, 3) := by decide +kernel
theorem dX_limit_45 : decode cX_limit 45 = .ok (.iload_n 1, 1) := by decide +kernel
theorem dX_limit_46 : decode cX_limit 46 = .ok (.iload_n 3, 1) := by decide +kernel
theorem dX_limit_47 : decode cX_limit 47 = .ok (.iastore, 1) := by decide +kernel
theorem dX_limit_48 : decode cX_limit 48 = .ok (.aload_n 0, 1) := by decide +kernel
theorem dX_limit_49 : decode cX_limit 49 = .ok (.getfield 30, 3) := by decide +kernel
theorem dX_limit_52 : decode cX_limit 52 = .ok (.invokevirtual 84, 3) := by decide +kernel
theorem dX_limit_55 : decode cX_limit 55 = .ok (.iload 4, 2) := by decide +kernel
theorem dX_limit_57 : decode cX_limit 57 = .ok (.ireturn, 1) := by decide +kernel
theorem dX_number_0 : decode cX_number 0 = .ok (.aload_n 0, 1) := by decide +kernel
theorem dX_number_1 : decode cX_number 1 = .ok (.getfield 12, 3) := by decide +kernel
theorem dX_number_4 : decode cX_number 4 = .ok (.iload_n 1, 1) := by decide +kernel
theorem dX_number_5 : decode cX_number 5 = .ok (.invokevirtual 139, 3) := by decide +kernel
theorem dX_number_8 : decode cX_number 8 = .ok (.ifCond .eq 10, 3) := by decide +kernel
theorem dX_number_11 : decode cX_number 11 = .ok (.iload_n 2, 1) := by decide +kernel
theorem dX_number_12 : decode cX_number 12 = .ok (.invokestatic 91, 3) := by decide +kernel
theorem dX_number_15 : decode cX_number 15 = .ok (.ifCond .ne 13, 3) := by decide +kernel
theorem dX_number_18 : decode cX_number 18 = .ok (.new 98, 3) := by decide +kernel
theorem dX_number_21 : decode cX_number 21 = .ok (.dup, 1) := by decide +kernel
theorem dX_number_22 : decode cX_number 22 = .ok (.ldc 142, 2) := by decide +kernel
theorem dX_number_24 : decode cX_number 24 = .ok (.invokespecial 102, 3) := by decide +kernel
theorem dX_number_27 : decode cX_number 27 = .ok (.athrow, 1) := by decide +kernel
theorem dX_number_28 : decode cX_number 28 = .ok (.aload_n 0, 1) := by decide +kernel
theorem dX_number_29 : decode cX_number 29 = .ok (.getfield 21, 3) := by decide +kernel
theorem dX_number_32 : decode cX_number 32 = .ok (.iload_n 1, 1) := by decide +kernel
theorem dX_number_33 : decode cX_number 33 = .ok (.iload_n 2, 1) := by decide +kernel
theorem dX_number_34 : decode cX_number 34 = .ok (.invokevirtual 144, 3) := by decide +kernel
theorem dX_number_37 : decode cX_number 37 = .ok (.ireturn, 1) := by decide +kernel
theorem dX_value_0 : decode cX_value 0 = .ok (.aload_n 0, 1) := by decide +kernel
theorem dX_value_1 : decode cX_value 1 = .ok (.getfield 12, 3) := by decide +kernel
theorem dX_value_4 : decode cX_value 4 = .ok (.iload_n 1, 1) := by decide +kernel
theorem dX_value_5 : decode cX_value 5 = .ok (.invokevirtual 139, 3) := by decide +kernel
theorem dX_value_8 : decode cX_value 8 = .ok (.ifCond .eq 14, 3) := by decide +kernel
theorem dX_value_11 : decode cX_value 11 = .ok (.aload_n 0, 1) := by decide +kernel
theorem dX_value_12 : decode cX_value 12 = .ok (.getfield 12, 3) := by decide +kernel
theorem dX_value_15 : decode cX_value 15 = .ok (.iload_n 2, 1) := by decide +kernel
theorem dX_value_16 : decode cX_value 16 = .ok (.invokevirtual 148, 3) := by decide +kernel
theorem dX_value_19 : decode cX_value 19 = .ok (.ifCond .ne 13, 3) := by decide +kernel
theorem dX_value_22 : decode cX_value 22 = .ok (.new 98, 3) := by decide +kernel
theorem dX_value_25 : decode cX_value 25 = .ok (.dup, 1) := by decide +kernel
theorem dX_value_26 : decode cX_value 26 = .ok (.ldc 151, 2) := by decide +kernel
theorem dX_value_28 : decode cX_value 28 = .ok (.invokespecial 102, 3) := by decide +kernel
theorem dX_value_31 : decode cX_value 31 = .ok (.athrow, 1) := by decide +kernel
theorem dX_value_32 : decode cX_value 32 = .ok (.aload_n 0, 1) := by decide +kernel
theorem dX_value_33 : decode cX_value 33 = .ok (.getfield 12, 3) := by decide +kernel
theorem dX_value_36 : decode cX_value 36 = .ok (.iload_n 1, 1) := by decide +kernel
theorem dX_value_37 : decode cX_value 37 = .ok (.iload_n 2, 1) := by decide +kernel
theorem dX_value_38 : decode cX_value 38 = .ok (.invokevirtual 153, 3) := by decide +kernel
theorem dX_value_41 : decode cX_value 41 = .ok (.ireturn, 1) := by decide +kernel
theorem dX_legal_0 : decode cX_legal 0 = .ok (.aload_n 0, 1) := by decide +kernel
theorem dX_legal_1 : decode cX_legal 1 = .ok (.getfield 12, 3) := by decide +kernel
theorem dX_legal_4 : decode cX_legal 4 = .ok (.iload_n 1, 1) := by decide +kernel
theorem dX_legal_5 : decode cX_legal 5 = .ok (.invokevirtual 139, 3) := by decide +kernel
theorem dX_legal_8 : decode cX_legal 8 = .ok (.ifCond .ne 13, 3) := by decide +kernel
theorem dX_legal_11 : decode cX_legal 11 = .ok (.new 98, 3) := by decide +kernel
theorem dX_legal_14 : decode cX_legal 14 = .ok (.dup, 1) := by decide +kernel
theorem dX_legal_15 : decode cX_legal 15 = .ok (.ldc 156, 2) := by decide +kernel
theorem dX_legal_17 : decode cX_legal 17 = .ok (.invokespecial 102, 3) := by decide +kernel
theorem dX_legal_20 : decode cX_legal 20 = .ok (.athrow, 1) := by decide +kernel
theorem dX_legal_21 : decode cX_legal 21 = .ok (.aload_n 0, 1) := by decide +kernel
theorem dX_legal_22 : decode cX_legal 22 = .ok (.getfield 21, 3) := by decide +kernel
theorem dX_legal_25 : decode cX_legal 25 = .ok (.iload_n 1, 1) := by decide +kernel
theorem dX_legal_26 : decode cX_legal 26 = .ok (.invokevirtual 158, 3) := by decide +kernel
theorem dX_legal_29 : decode cX_legal 29 = .ok (.ireturn, 1) := by decide +kernel
theorem dX_beats_0 : decode cX_beats 0 = .ok (.aload_n 0, 1) := by decide +kernel
theorem dX_beats_1 : decode cX_beats 1 = .ok (.getfield 12, 3) := by decide +kernel
theorem dX_beats_4 : decode cX_beats 4 = .ok (.iload_n 1, 1) := by decide +kernel
theorem dX_beats_5 : decode cX_beats 5 = .ok (.invokevirtual 139, 3) := by decide +kernel
theorem dX_beats_8 : decode cX_beats 8 = .ok (.ifCond .eq 14, 3) := by decide +kernel
theorem dX_beats_11 : decode cX_beats 11 = .ok (.aload_n 0, 1) := by decide +kernel
theorem dX_beats_12 : decode cX_beats 12 = .ok (.getfield 12, 3) := by decide +kernel
theorem dX_beats_15 : decode cX_beats 15 = .ok (.iload_n 2, 1) := by decide +kernel
theorem dX_beats_16 : decode cX_beats 16 = .ok (.invokevirtual 139, 3) := by decide +kernel
theorem dX_beats_19 : decode cX_beats 19 = .ok (.ifCond .ne 13, 3) := by decide +kernel
theorem dX_beats_22 : decode cX_beats 22 = .ok (.new 98, 3) := by decide +kernel
theorem dX_beats_25 : decode cX_beats 25 = .ok (.dup, 1) := by decide +kernel
theorem dX_beats_26 : decode cX_beats 26 = .ok (.ldc 161, 2) := by decide +kernel
theorem dX_beats_28 : decode cX_beats 28 = .ok (.invokespecial 102, 3) := by decide +kernel
theorem dX_beats_31 : decode cX_beats 31 = .ok (.athrow, 1) := by decide +kernel
theorem dX_beats_32 : decode cX_beats 32 = .ok (.aload_n 0, 1) := by decide +kernel
theorem dX_beats_33 : decode cX_beats 33 = .ok (.getfield 21, 3) := by decide +kernel
theorem dX_beats_36 : decode cX_beats 36 = .ok (.iload_n 1, 1) := by decide +kernel
theorem dX_beats_37 : decode cX_beats 37 = .ok (.invokevirtual 158, 3) := by decide +kernel
theorem dX_beats_40 : decode cX_beats 40 = .ok (.ifCond .eq 14, 3) := by decide +kernel
theorem dX_beats_43 : decode cX_beats 43 = .ok (.aload_n 0, 1) := by decide +kernel
theorem dX_beats_44 : decode cX_beats 44 = .ok (.getfield 21, 3) := by decide +kernel
theorem dX_beats_47 : decode cX_beats 47 = .ok (.iload_n 2, 1) := by decide +kernel
theorem dX_beats_48 : decode cX_beats 48 = .ok (.invokevirtual 158, 3) := by decide +kernel
theorem dX_beats_51 : decode cX_beats 51 = .ok (.ifCond .ne 13, 3) := by decide +kernel
theorem dX_beats_54 : decode cX_beats 54 = .ok (.new 58, 3) := by decide +kernel
theorem dX_beats_57 : decode cX_beats 57 = .ok (.dup, 1) := by decide +kernel
theorem dX_beats_58 : decode cX_beats 58 = .ok (.ldc 163, 2) := by decide +kernel
theorem dX_beats_60 : decode cX_beats 60 = .ok (.invokespecial 62, 3) := by decide +kernel
theorem dX_beats_63 : decode cX_beats 63 = .ok (.athrow, 1) := by decide +kernel
theorem dX_beats_64 : decode cX_beats 64 = .ok (.aload_n 0, 1) := by decide +kernel
theorem dX_beats_65 : decode cX_beats 65 = .ok (.getfield 21, 3) := by decide +kernel
theorem dX_beats_68 : decode cX_beats 68 = .ok (.iload_n 1, 1) := by decide +kernel
theorem dX_beats_69 : decode cX_beats 69 = .ok (.iload_n 2, 1) := by decide +kernel
theorem dX_beats_70 : decode cX_beats 70 = .ok (.invokevirtual 165, 3) := by decide +kernel
theorem dX_beats_73 : decode cX_beats 73 = .ok (.ifCond .eq 19, 3) := by decide +kernel
theorem dX_beats_76 : decode cX_beats 76 = .ok (.aload_n 0, 1) := by decide +kernel
theorem dX_beats_77 : decode cX_beats 77 = .ok (.getfield 21, 3) := by decide +kernel
theorem dX_beats_80 : decode cX_beats 80 = .ok (.iload_n 2, 1) := by decide +kernel
theorem dX_beats_81 : decode cX_beats 81 = .ok (.iload_n 1, 1) := by decide +kernel
theorem dX_beats_82 : decode cX_beats 82 = .ok (.invokevirtual 165, 3) := by decide +kernel
theorem dX_beats_85 : decode cX_beats 85 = .ok (.ifCond .ne 7, 3) := by decide +kernel
theorem dX_beats_88 : decode cX_beats 88 = .ok (.iconst 1, 1) := by decide +kernel
theorem dX_beats_89 : decode cX_beats 89 = .ok (.goto 4, 3) := by decide +kernel
theorem dX_beats_92 : decode cX_beats 92 = .ok (.iconst 0, 1) := by decide +kernel
theorem dX_beats_93 : decode cX_beats 93 = .ok (.ireturn, 1) := by decide +kernel
theorem dX_undominated_0 : decode cX_undominated 0 = .ok (.aload_n 0, 1) := by decide +kernel
theorem dX_undominated_1 : decode cX_undominated 1 = .ok (.getfield 30, 3) := by decide +kernel
theorem dX_undominated_4 : decode cX_undominated 4 = .ok (.invokevirtual 168, 3) := by decide +kernel
theorem dX_undominated_7 : decode cX_undominated 7 = .ok (.aload_n 0, 1) := by decide +kernel
theorem dX_undominated_8 : decode cX_undominated 8 = .ok (.getfield 30, 3) := by decide +kernel
theorem dX_undominated_11 : decode cX_undominated 11 = .ok (.getfield 171, 3) := by decide +kernel
theorem dX_undominated_14 : decode cX_undominated 14 = .ok (.ireturn, 1) := by decide +kernel
theorem dX_at_0 : decode cX_at 0 = .ok (.aload_n 0, 1) := by decide +kernel
theorem dX_at_1 : decode cX_at 1 = .ok (.getfield 30, 3) := by decide +kernel
theorem dX_at_4 : decode cX_at 4 = .ok (.invokevirtual 168, 3) := by decide +kernel
theorem dX_at_7 : decode cX_at 7 = .ok (.iload_n 1, 1) := by decide +kernel
theorem dX_at_8 : decode cX_at 8 = .ok (.ifCond .lt 14, 3) := by decide +kernel
theorem dX_at_11 : decode cX_at 11 = .ok (.iload_n 1, 1) := by decide +kernel
theorem dX_at_12 : decode cX_at 12 = .ok (.aload_n 0, 1) := by decide +kernel
theorem dX_at_13 : decode cX_at 13 = .ok (.getfield 30, 3) := by decide +kernel
theorem dX_at_16 : decode cX_at 16 = .ok (.getfield 171, 3) := by decide +kernel
theorem dX_at_19 : decode cX_at 19 = .ok (.if_icmp .lt 13, 3) := by decide +kernel
theorem dX_at_22 : decode cX_at 22 = .ok (.new 98, 3) := by decide +kernel
theorem dX_at_25 : decode cX_at 25 = .ok (.dup, 1) := by decide +kernel
theorem dX_at_26 : decode cX_at 26 = .ok (.ldc 174, 2) := by decide +kernel
theorem dX_at_28 : decode cX_at 28 = .ok (.invokespecial 102, 3) := by decide +kernel
theorem dX_at_31 : decode cX_at 31 = .ok (.athrow, 1) := by decide +kernel
theorem dX_at_32 : decode cX_at 32 = .ok (.aload_n 0, 1) := by decide +kernel
theorem dX_at_33 : decode cX_at 33 = .ok (.getfield 30, 3) := by decide +kernel
theorem dX_at_36 : decode cX_at 36 = .ok (.getfield 176, 3) := by decide +kernel
theorem dX_at_39 : decode cX_at 39 = .ok (.iload_n 1, 1) := by decide +kernel
theorem dX_at_40 : decode cX_at 40 = .ok (.iaload, 1) := by decide +kernel
theorem dX_at_41 : decode cX_at 41 = .ok (.ireturn, 1) := by decide +kernel
theorem dX_best_0 : decode cX_best 0 = .ok (.iload_n 1, 1) := by decide +kernel
theorem dX_best_1 : decode cX_best 1 = .ok (.invokestatic 91, 3) := by decide +kernel
theorem dX_best_4 : decode cX_best 4 = .ok (.ifCond .ne 13, 3) := by decide +kernel
theorem dX_best_7 : decode cX_best 7 = .ok (.new 98, 3) := by decide +kernel
theorem dX_best_10 : decode cX_best 10 = .ok (.dup, 1) := by decide +kernel
theorem dX_best_11 : decode cX_best 11 = .ok (.ldc 129, 2) := by decide +kernel
theorem dX_best_13 : decode cX_best 13 = .ok (.invokespecial 102, 3) := by decide +kernel
theorem dX_best_16 : decode cX_best 16 = .ok (.athrow, 1) := by decide +kernel
theorem dX_best_17 : decode cX_best 17 = .ok (.aload_n 0, 1) := by decide +kernel
theorem dX_best_18 : decode cX_best 18 = .ok (.getfield 37, 3) := by decide +kernel
theorem dX_best_21 : decode cX_best 21 = .ok (.iload_n 1, 1) := by decide +kernel
theorem dX_best_22 : decode cX_best 22 = .ok (.invokevirtual 179, 3) := by decide +kernel
theorem dX_best_25 : decode cX_best 25 = .ok (.ireturn, 1) := by decide +kernel
theorem dX_looked_0 : decode cX_looked 0 = .ok (.aload_n 0, 1) := by decide +kernel
theorem dX_looked_1 : decode cX_looked 1 = .ok (.getfield 37, 3) := by decide +kernel
theorem dX_looked_4 : decode cX_looked 4 = .ok (.getfield 183, 3) := by decide +kernel
theorem dX_looked_7 : decode cX_looked 7 = .ok (.ireturn, 1) := by decide +kernel
theorem dX_bound_0 : decode cX_bound 0 = .ok (.iload_n 1, 1) := by decide +kernel
theorem dX_bound_1 : decode cX_bound 1 = .ok (.invokestatic 91, 3) := by decide +kernel
theorem dX_bound_4 : decode cX_bound 4 = .ok (.ifCond .eq 29, 3) := by decide +kernel
theorem dX_bound_7 : decode cX_bound 7 = .ok (.aload_n 0, 1) := by decide +kernel
theorem dX_bound_8 : decode cX_bound 8 = .ok (.getfield 12, 3) := by decide +kernel
theorem dX_bound_11 : decode cX_bound 11 = .ok (.iload_n 2, 1) := by decide +kernel
theorem dX_bound_12 : decode cX_bound 12 = .ok (.invokevirtual 139, 3) := by decide +kernel
theorem dX_bound_15 : decode cX_bound 15 = .ok (.ifCond .eq 18, 3) := by decide +kernel
theorem dX_bound_18 : decode cX_bound 18 = .ok (.iload_n 3, 1) := by decide +kernel
theorem dX_bound_19 : decode cX_bound 19 = .ok (.ifCond .lt 14, 3) := by decide +kernel
