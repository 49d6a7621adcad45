theorem dM_beats_40 : decode cM_beats 40 = .ok (.getfield 60, 3) := by decide +kernel
theorem dM_beats_43 : decode cM_beats 43 = .ok (.iload_n 1, 1) := by decide +kernel
theorem dM_beats_44 : decode cM_beats 44 = .ok (.baload, 1) := by decide +kernel
theorem dM_beats_45 : decode cM_beats 45 = .ok (.ifCond .eq 16, 3) := by decide +kernel
theorem dM_beats_48 : decode cM_beats 48 = .ok (.aload_n 0, 1) := by decide +kernel
theorem dM_beats_49 : decode cM_beats 49 = .ok (.getfield 60, 3) := by decide +kernel
theorem dM_beats_52 : decode cM_beats 52 = .ok (.iload_n 2, 1) := by decide +kernel
theorem dM_beats_53 : decode cM_beats 53 = .ok (.baload, 1) := by decide +kernel
theorem dM_beats_54 : decode cM_beats 54 = .ok (.ifCond .eq 7, 3) := by decide +kernel
theorem dM_beats_57 : decode cM_beats 57 = .ok (.iconst 0, 1) := by decide +kernel
theorem dM_beats_58 : decode cM_beats 58 = .ok (.goto 4, 3) := by decide +kernel
theorem dM_beats_61 : decode cM_beats 61 = .ok (.iconst 2, 1) := by decide +kernel
theorem dM_beats_62 : decode cM_beats 62 = .ok (.putfield 70, 3) := by decide +kernel
theorem dM_beats_65 : decode cM_beats 65 = .ok (.aload_n 0, 1) := by decide +kernel
theorem dM_beats_66 : decode cM_beats 66 = .ok (.getfield 70, 3) := by decide +kernel
theorem dM_beats_69 : decode cM_beats 69 = .ok (.ifCond .ne 16, 3) := by decide +kernel
theorem dM_beats_72 : decode cM_beats 72 = .ok (.aload_n 0, 1) := by decide +kernel
theorem dM_beats_73 : decode cM_beats 73 = .ok (.iload_n 2, 1) := by decide +kernel
theorem dM_beats_74 : decode cM_beats 74 = .ok (.iload_n 1, 1) := by decide +kernel
theorem dM_beats_75 : decode cM_beats 75 = .ok (.invokevirtual 130, 3) := by decide +kernel
theorem dM_beats_78 : decode cM_beats 78 = .ok (.ifCond .eq 7, 3) := by decide +kernel
theorem dM_beats_81 : decode cM_beats 81 = .ok (.iconst 1, 1) := by decide +kernel
theorem dM_beats_82 : decode cM_beats 82 = .ok (.goto 4, 3) := by decide +kernel
theorem dM_beats_85 : decode cM_beats 85 = .ok (.iconst 0, 1) := by decide +kernel
theorem dM_beats_86 : decode cM_beats 86 = .ok (.ireturn, 1) := by decide +kernel
theorem dM_isUndominated_0 : decode cM_isUndominated 0 = .ok (.aload_n 0, 1) := by decide +kernel
theorem dM_isUndominated_1 : decode cM_isUndominated 1 = .ok (.getfield 60, 3) := by decide +kernel
theorem dM_isUndominated_4 : decode cM_isUndominated 4 = .ok (.iload_n 1, 1) := by decide +kernel
theorem dM_isUndominated_5 : decode cM_isUndominated 5 = .ok (.baload, 1) := by decide +kernel
theorem dM_isUndominated_6 : decode cM_isUndominated 6 = .ok (.ifCond .ne 5, 3) := by decide +kernel
theorem dM_isUndominated_9 : decode cM_isUndominated 9 = .ok (.iconst 0, 1) := by decide +kernel
theorem dM_isUndominated_10 : decode cM_isUndominated 10 = .ok (.ireturn, 1) := by decide +kernel
theorem dM_isUndominated_11 : decode cM_isUndominated 11 = .ok (.iconst 0, 1) := by decide +kernel
theorem dM_isUndominated_12 : decode cM_isUndominated 12 = .ok (.istore_n 2, 1) := by decide +kernel
theorem dM_isUndominated_13 : decode cM_isUndominated 13 = .ok (.iload_n 2, 1) := by decide +kernel
theorem dM_isUndominated_14 : decode cM_isUndominated 14 = .ok (.aload_n 0, 1) := by decide +kernel
theorem dM_isUndominated_15 : decode cM_isUndominated 15 = .ok (.getfield 7, 3) := by decide +kernel
theorem dM_isUndominated_18 : decode cM_isUndominated 18 = .ok (.if_icmp .ge 29, 3) := by decide +kernel
theorem dM_isUndominated_21 : decode cM_isUndominated 21 = .ok (.aload_n 0, 1) := by decide +kernel
theorem dM_isUndominated_22 : decode cM_isUndominated 22 = .ok (.getfield 60, 3) := by decide +kernel
theorem dM_isUndominated_25 : decode cM_isUndominated 25 = .ok (.iload_n 2, 1) := by decide +kernel
theorem dM_isUndominated_26 : decode cM_isUndominated 26 = .ok (.baload, 1) := by decide +kernel
theorem dM_isUndominated_27 : decode cM_isUndominated 27 = .ok (.ifCond .eq 14, 3) := by decide +kernel
theorem dM_isUndominated_30 : decode cM_isUndominated 30 = .ok (.aload_n 0, 1) := by decide +kernel
theorem dM_isUndominated_31 : decode cM_isUndominated 31 = .ok (.iload_n 1, 1) := by decide +kernel
theorem dM_isUndominated_32 : decode cM_isUndominated 32 = .ok (.iload_n 2, 1) := by decide +kernel
theorem dM_isUndominated_33 : decode cM_isUndominated 33 = .ok (.invokevirtual 130, 3) := by decide +kernel
theorem dM_isUndominated_36 : decode cM_isUndominated 36 = .ok (.ifCond .eq 5, 3) := by decide +kernel
theorem dM_isUndominated_39 : decode cM_isUndominated 39 = .ok (.iconst 0, 1) := by decide +kernel
theorem dM_isUndominated_40 : decode cM_isUndominated 40 = .ok (.ireturn, 1) := by decide +kernel
theorem dM_isUndominated_41 : decode cM_isUndominated 41 = .ok (.iinc 2 1, 3) := by decide +kernel
theorem dM_isUndominated_44 : decode cM_isUndominated 44 = .ok (.goto (-31), 3) := by decide +kernel
theorem dM_isUndominated_47 : decode cM_isUndominated 47 = .ok (.iconst 1, 1) := by decide +kernel
theorem dM_isUndominated_48 : decode cM_isUndominated 48 = .ok (.ireturn, 1) := by decide +kernel
theorem dM_undominated_0 : decode cM_undominated 0 = .ok (.aload_n 0, 1) := by decide +kernel
theorem dM_undominated_1 : decode cM_undominated 1 = .ok (.iconst 0, 1) := by decide +kernel
theorem dM_undominated_2 : decode cM_undominated 2 = .ok (.putfield 70, 3) := by decide +kernel
theorem dM_undominated_5 : decode cM_undominated 5 = .ok (.aload_n 0, 1) := by decide +kernel
theorem dM_undominated_6 : decode cM_undominated 6 = .ok (.invokevirtual 127, 3) := by decide +kernel
theorem dM_undominated_9 : decode cM_undominated 9 = .ok (.iconst 0, 1) := by decide +kernel
theorem dM_undominated_10 : decode cM_undominated 10 = .ok (.istore_n 1, 1) := by decide +kernel
theorem dM_undominated_11 : decode cM_undominated 11 = .ok (.iconst 0, 1) := by decide +kernel
theorem dM_undominated_12 : decode cM_undominated 12 = .ok (.istore_n 2, 1) := by decide +kernel
theorem dM_undominated_13 : decode cM_undominated 13 = .ok (.iload_n 2, 1) := by decide +kernel
theorem dM_undominated_14 : decode cM_undominated 14 = .ok (.aload_n 0, 1) := by decide +kernel
theorem dM_undominated_15 : decode cM_undominated 15 = .ok (.getfield 7, 3) := by decide +kernel
theorem dM_undominated_18 : decode cM_undominated 18 = .ok (.if_icmp .ge 25, 3) := by decide +kernel
theorem dM_undominated_21 : decode cM_undominated 21 = .ok (.iload_n 1, 1) := by decide +kernel
theorem dM_undominated_22 : decode cM_undominated 22 = .ok (.aload_n 0, 1) := by decide +kernel
theorem dM_undominated_23 : decode cM_undominated 23 = .ok (.iload_n 2, 1) := by decide +kernel
theorem dM_undominated_24 : decode cM_undominated 24 = .ok (.invokevirtual 133, 3) := by decide +kernel
theorem dM_undominated_27 : decode cM_undominated 27 = .ok (.ifCond .eq 7, 3) := by decide +kernel
theorem dM_undominated_30 : decode cM_undominated 30 = .ok (.iconst 1, 1) := by decide +kernel
theorem dM_undominated_31 : decode cM_undominated 31 = .ok (.goto 4, 3) := by decide +kernel
theorem dM_undominated_34 : decode cM_undominated 34 = .ok (.iconst 0, 1) := by decide +kernel
theorem dM_undominated_35 : decode cM_undominated 35 = .ok (.iadd, 1) := by decide +kernel
theorem dM_undominated_36 : decode cM_undominated 36 = .ok (.istore_n 1, 1) := by decide +kernel
theorem dM_undominated_37 : decode cM_undominated 37 = .ok (.iinc 2 1, 3) := by decide +kernel
theorem dM_undominated_40 : decode cM_undominated 40 = .ok (.goto (-27), 3) := by decide +kernel
theorem dM_undominated_43 : decode cM_undominated 43 = .ok (.iload_n 1, 1) := by decide +kernel
theorem dM_undominated_44 : decode cM_undominated 44 = .ok (.ireturn, 1) := by decide +kernel
theorem dM_at_0 : decode cM_at 0 = .ok (.aload_n 0, 1) := by decide +kernel
theorem dM_at_1 : decode cM_at 1 = .ok (.iconst 0, 1) := by decide +kernel
theorem dM_at_2 : decode cM_at 2 = .ok (.putfield 70, 3) := by decide +kernel
theorem dM_at_5 : decode cM_at 5 = .ok (.aload_n 0, 1) := by decide +kernel
theorem dM_at_6 : decode cM_at 6 = .ok (.invokevirtual 127, 3) := by decide +kernel
theorem dM_at_9 : decode cM_at 9 = .ok (.iconst 0, 1) := by decide +kernel
theorem dM_at_10 : decode cM_at 10 = .ok (.istore_n 2, 1) := by decide +kernel
theorem dM_at_11 : decode cM_at 11 = .ok (.iconst 0, 1) := by decide +kernel
theorem dM_at_12 : decode cM_at 12 = .ok (.istore_n 3, 1) := by decide +kernel
theorem dM_at_13 : decode cM_at 13 = .ok (.iload_n 3, 1) := by decide +kernel
theorem dM_at_14 : decode cM_at 14 = .ok (.aload_n 0, 1) := by decide +kernel
theorem dM_at_15 : decode cM_at 15 = .ok (.getfield 7, 3) := by decide +kernel
theorem dM_at_18 : decode cM_at 18 = .ok (.if_icmp .ge 31, 3) := by decide +kernel
theorem dM_at_21 : decode cM_at 21 = .ok (.iload_n 1, 1) := by decide +kernel
theorem dM_at_22 : decode cM_at 22 = .ok (.ifCond .lt 27, 3) := by decide +kernel
theorem dM_at_25 : decode cM_at 25 = .ok (.aload_n 0, 1) := by decide +kernel
theorem dM_at_26 : decode cM_at 26 = .ok (.iload_n 3, 1) := by decide +kernel
theorem dM_at_27 : decode cM_at 27 = .ok (.invokevirtual 133, 3) := by decide +kernel
theorem dM_at_30 : decode cM_at 30 = .ok (.ifCond .eq 13, 3) := by decide +kernel
theorem dM_at_33 : decode cM_at 33 = .ok (.iload_n 2, 1) := by decide +kernel
theorem dM_at_34 : decode cM_at 34 = .ok (.iload_n 1, 1) := by decide +kernel
theorem dM_at_35 : decode cM_at 35 = .ok (.if_icmp .ne 5, 3) := by decide +kernel
theorem dM_at_38 : decode cM_at 38 = .ok (.iload_n 3, 1) := by decide +kernel
theorem dM_at_39 : decode cM_at 39 = .ok (.ireturn, 1) := by decide +kernel
theorem dM_at_40 : decode cM_at 40 = .ok (.iinc 2 1, 3) := by decide +kernel
theorem dM_at_43 : decode cM_at 43 = .ok (.iinc 3 1, 3) := by decide +kernel
theorem dM_at_46 : decode cM_at 46 = .ok (.goto (-33), 3) := by decide +kernel
theorem dM_at_49 : decode cM_at 49 = .ok (.aload_n 0, 1) := by decide +kernel
theorem dM_at_50 : decode cM_at 50 = .ok (.iconst 1, 1) := by decide +kernel
theorem dM_at_51 : decode cM_at 51 = .ok (.invokevirtual 77, 3) := by decide +kernel
theorem dM_at_54 : decode cM_at 54 = .ok (.ireturn, 1) := by decide +kernel
theorem dM_nextRow_0 : decode cM_nextRow 0 = .ok (.iload_n 1, 1) := by decide +kernel
theorem dM_nextRow_1 : decode cM_nextRow 1 = .ok (.iconst 1, 1) := by decide +kernel
theorem dM_nextRow_2 : decode cM_nextRow 2 = .ok (.isub, 1) := by decide +kernel
theorem dM_nextRow_3 : decode cM_nextRow 3 = .ok (.istore_n 2, 1) := by decide +kernel
theorem dM_nextRow_4 : decode cM_nextRow 4 = .ok (.iload_n 2, 1) := by decide +kernel
theorem dM_nextRow_5 : decode cM_nextRow 5 = .ok (.ifCond .lt 33, 3) := by decide +kernel
theorem dM_nextRow_8 : decode cM_nextRow 8 = .ok (.aload_n 0, 1) := by decide +kernel
theorem dM_nextRow_9 : decode cM_nextRow 9 = .ok (.getfield 54, 3) := by decide +kernel
theorem dM_nextRow_12 : decode cM_nextRow 12 = .ok (.iload_n 2, 1) := by decide +kernel
theorem dM_nextRow_13 : decode cM_nextRow 13 = .ok (.iaload, 1) := by decide +kernel
theorem dM_nextRow_14 : decode cM_nextRow 14 = .ok (.aload_n 0, 1) := by decide +kernel
theorem dM_nextRow_15 : decode cM_nextRow 15 = .ok (.getfield 13, 3) := by decide +kernel
theorem dM_nextRow_18 : decode cM_nextRow 18 = .ok (.iload_n 2, 1) := by decide +kernel
theorem dM_nextRow_19 : decode cM_nextRow 19 = .ok (.iaload, 1) := by decide +kernel
theorem dM_nextRow_20 : decode cM_nextRow 20 = .ok (.iconst 1, 1) := by decide +kernel
theorem dM_nextRow_21 : decode cM_nextRow 21 = .ok (.isub, 1) := by decide +kernel
theorem dM_nextRow_22 : decode cM_nextRow 22 = .ok (.if_icmp .ne 16, 3) := by decide +kernel
theorem dM_nextRow_25 : decode cM_nextRow 25 = .ok (.aload_n 0, 1) := by decide +kernel
theorem dM_nextRow_26 : decode cM_nextRow 26 = .ok (.getfield 54, 3) := by decide +kernel
theorem dM_nextRow_29 : decode cM_nextRow 29 = .ok (.iload_n 2, 1) := by decide +kernel
theorem dM_nextRow_30 : decode cM_nextRow 30 = .ok (.iconst (-1), 1) := by decide +kernel
theorem dM_nextRow_31 : decode cM_nextRow 31 = .ok (.iastore, 1) := by decide +kernel
theorem dM_nextRow_32 : decode cM_nextRow 32 = .ok (.iinc 2 (-1), 3) := by decide +kernel
theorem dM_nextRow_35 : decode cM_nextRow 35 = .ok (.goto (-31), 3) := by decide +kernel
theorem dM_nextRow_38 : decode cM_nextRow 38 = .ok (.iload_n 2, 1) := by decide +kernel
theorem dM_nextRow_39 : decode cM_nextRow 39 = .ok (.ifCond .ge 5, 3) := by decide +kernel
theorem dM_nextRow_42 : decode cM_nextRow 42 = .ok (.iconst (-1), 1) := by decide +kernel
theorem dM_nextRow_43 : decode cM_nextRow 43 = .ok (.ireturn, 1) := by decide +kernel
theorem dM_nextRow_44 : decode cM_nextRow 44 = .ok (.aload_n 0, 1) := by decide +kernel
theorem dM_nextRow_45 : decode cM_nextRow 45 = .ok (.getfield 54, 3) := by decide +kernel
theorem dM_nextRow_48 : decode cM_nextRow 48 = .ok (.iload_n 2, 1) := by decide +kernel
theorem dM_nextRow_49 : decode cM_nextRow 49 = .ok (.dup2, 1) := by decide +kernel
theorem dM_nextRow_50 : decode cM_nextRow 50 = .ok (.iaload, 1) := by decide +kernel
theorem dM_nextRow_51 : decode cM_nextRow 51 = .ok (.iconst 1, 1) := by decide +kernel
theorem dM_nextRow_52 : decode cM_nextRow 52 = .ok (.iadd, 1) := by decide +kernel
theorem dM_nextRow_53 : decode cM_nextRow 53 = .ok (.iastore, 1) := by decide +kernel
theorem dM_nextRow_54 : decode cM_nextRow 54 = .ok (.iload_n 2, 1) := by decide +kernel
theorem dM_nextRow_55 : decode cM_nextRow 55 = .ok (.iconst 1, 1) := by decide +kernel
theorem dM_nextRow_56 : decode cM_nextRow 56 = .ok (.iadd, 1) := by decide +kernel
theorem dM_nextRow_57 : decode cM_nextRow 57 = .ok (.ireturn, 1) := by decide +kernel
theorem dM_best_0 : decode cM_best 0 = .ok (.aload_n 0, 1) := by decide +kernel
theorem dM_best_1 : decode cM_best 1 = .ok (.iconst 0, 1) := by decide +kernel
theorem dM_best_2 : decode cM_best 2 = .ok (.putfield 70, 3) := by decide +kernel
theorem dM_best_5 : decode cM_best 5 = .ok (.iload_n 1, 1) := by decide +kernel
theorem dM_best_6 : decode cM_best 6 = .ok (.iconst 0, 1) := by decide +kernel
theorem dM_best_7 : decode cM_best 7 = .ok (.iconst 3, 1) := by decide +kernel
theorem dM_best_8 : decode cM_best 8 = .ok (.invokestatic 73, 3) := by decide +kernel
theorem dM_best_11 : decode cM_best 11 = .ok (.ifCond .ne 9, 3) := by decide +kernel
theorem dM_best_14 : decode cM_best 14 = .ok (.aload_n 0, 1) := by decide +kernel
theorem dM_best_15 : decode cM_best 15 = .ok (.iconst 1, 1) := by decide +kernel
theorem dM_best_16 : decode cM_best 16 = .ok (.invokevirtual 77, 3) := by decide +kernel
theorem dM_best_19 : decode cM_best 19 = .ok (.ireturn, 1) := by decide +kernel
theorem dM_best_20 : decode cM_best 20 = .ok (.aload_n 0, 1) := by decide +kernel
theorem dM_best_21 : decode cM_best 21 = .ok (.iconst 0, 1) := by decide +kernel
theorem dM_best_22 : decode cM_best 22 = .ok (.putfield 136, 3) := by decide +kernel
theorem dM_best_25 : decode cM_best 25 = .ok (.iconst (-1), 1) := by decide +kernel
theorem dM_best_26 : decode cM_best 26 = .ok (.istore_n 2, 1) := by decide +kernel
theorem dM_best_27 : decode cM_best 27 = .ok (.iconst 0, 1) := by decide +kernel
theorem dM_best_28 : decode cM_best 28 = .ok (.istore_n 3, 1) := by decide +kernel
theorem dM_best_29 : decode cM_best 29 = .ok (.iconst 0, 1) := by decide +kernel
theorem dM_best_30 : decode cM_best 30 = .ok (.istore 4, 2) := by decide +kernel
theorem dM_best_32 : decode cM_best 32 = .ok (.iload 4, 2) := by decide +kernel
theorem dM_best_34 : decode cM_best 34 = .ok (.aload_n 0, 1) := by decide +kernel
theorem dM_best_35 : decode cM_best 35 = .ok (.getfield 81, 3) := by decide +kernel
theorem dM_best_38 : decode cM_best 38 = .ok (.if_icmp .ge 17, 3) := by decide +kernel
theorem dM_best_41 : decode cM_best 41 = .ok (.aload_n 0, 1) := by decide +kernel
theorem dM_best_42 : decode cM_best 42 = .ok (.getfield 54, 3) := by decide +kernel
theorem dM_best_45 : decode cM_best 45 = .ok (.iload 4, 2) := by decide +kernel
theorem dM_best_47 : decode cM_best 47 = .ok (.iconst (-1), 1) := by decide +kernel
theorem dM_best_48 : decode cM_best 48 = .ok (.iastore, 1) := by decide +kernel
theorem dM_best_49 : decode cM_best 49 = .ok (.iinc 4 1, 3) := by decide +kernel
theorem dM_best_52 : decode cM_best 52 = .ok (.goto (-20), 3) := by decide +kernel
theorem dM_best_55 : decode cM_best 55 = .ok (.iconst 0, 1) := by decide +kernel
theorem dM_best_56 : decode cM_best 56 = .ok (.istore 4, 2) := by decide +kernel
theorem dM_best_58 : decode cM_best 58 = .ok (.iload 4, 2) := by decide +kernel
theorem dM_best_60 : decode cM_best 60 = .ok (.ifCond .lt 111, 3) := by decide +kernel
theorem dM_best_63 : decode cM_best 63 = .ok (.aload_n 0, 1) := by decide +kernel
theorem dM_best_64 : decode cM_best 64 = .ok (.dup, 1) := by decide +kernel
theorem dM_best_65 : decode cM_best 65 = .ok (.getfield 136, 3) := by decide +kernel
theorem dM_best_68 : decode cM_best 68 = .ok (.iconst 1, 1) := by decide +kernel
theorem dM_best_69 : decode cM_best 69 = .ok (.iadd, 1) := by decide +kernel
theorem dM_best_70 : decode cM_best 70 = .ok (.putfield 136, 3) := by decide +kernel
theorem dM_best_73 : decode cM_best 73 = .ok (.aload_n 0, 1) := by decide +kernel
theorem dM_best_74 : decode cM_best 74 = .ok (.invokevirtual 116, 3) := by decide +kernel
theorem dM_best_77 : decode cM_best 77 = .ok (.ifCond .ne 23, 3) := by decide +kernel
theorem dM_best_80 : decode cM_best 80 = .ok (.aload_n 0, 1) := by decide +kernel
theorem dM_best_81 : decode cM_best 81 = .ok (.invokevirtual 120, 3) := by decide +kernel
theorem dM_best_84 : decode cM_best 84 = .ok (.ifCond .ne 16, 3) := by decide +kernel
theorem dM_best_87 : decode cM_best 87 = .ok (.iload_n 2, 1) := by decide +kernel
theorem dM_best_88 : decode cM_best 88 = .ok (.ifCond .lt 16, 3) := by decide +kernel
theorem dM_best_91 : decode cM_best 91 = .ok (.aload_n 0, 1) := by decide +kernel
theorem dM_best_92 : decode cM_best 92 = .ok (.iload_n 1, 1) := by decide +kernel
theorem dM_best_93 : decode cM_best 93 = .ok (.invokevirtual 109, 3) := by decide +kernel
theorem dM_best_96 : decode cM_best 96 = .ok (.iload_n 3, 1) := by decide +kernel
theorem dM_best_97 : decode cM_best 97 = .ok (.if_icmp .lt 7, 3) := by decide +kernel
theorem dM_best_100 : decode cM_best 100 = .ok (.iconst 1, 1) := by decide +kernel
theorem dM_best_101 : decode cM_best 101 = .ok (.goto 4, 3) := by decide +kernel
theorem dM_best_104 : decode cM_best 104 = .ok (.iconst 0, 1) := by decide +kernel
theorem dM_best_105 : decode cM_best 105 = .ok (.istore 5, 2) := by decide +kernel
theorem dM_best_107 : decode cM_best 107 = .ok (.iload 5, 2) := by decide +kernel
theorem dM_best_109 : decode cM_best 109 = .ok (.ifCond .ne 23, 3) := by decide +kernel
theorem dM_best_112 : decode cM_best 112 = .ok (.iload 4, 2) := by decide +kernel
theorem dM_best_114 : decode cM_best 114 = .ok (.aload_n 0, 1) := by decide +kernel
theorem dM_best_115 : decode cM_best 115 = .ok (.getfield 81, 3) := by decide +kernel
theorem dM_best_118 : decode cM_best 118 = .ok (.if_icmp .ne 14, 3) := by decide +kernel
theorem dM_best_121 : decode cM_best 121 = .ok (.aload_n 0, 1) := by decide +kernel
theorem dM_best_122 : decode cM_best 122 = .ok (.invokevirtual 139, 3) := by decide +kernel
theorem dM_best_125 : decode cM_best 125 = .ok (.istore_n 2, 1) := by decide +kernel
theorem dM_best_126 : decode cM_best 126 = .ok (.aload_n 0, 1) := by decide +kernel
theorem dM_best_127 : decode cM_best 127 = .ok (.iload_n 1, 1) := by decide +kernel
theorem dM_best_128 : decode cM_best 128 = .ok (.invokevirtual 109, 3) := by decide +kernel
theorem dM_best_131 : decode cM_best 131 = .ok (.istore_n 3, 1) := by decide +kernel
theorem dM_best_132 : decode cM_best 132 = .ok (.iload 5, 2) := by decide +kernel
theorem dM_best_134 : decode cM_best 134 = .ok (.ifCond .ne 26, 3) := by decide +kernel
theorem dM_best_137 : decode cM_best 137 = .ok (.iload 4, 2) := by decide +kernel
theorem dM_best_139 : decode cM_best 139 = .ok (.aload_n 0, 1) := by decide +kernel
theorem dM_best_140 : decode cM_best 140 = .ok (.getfield 81, 3) := by decide +kernel
theorem dM_best_143 : decode cM_best 143 = .ok (.if_icmp .ge 17, 3) := by decide +kernel
theorem dM_best_146 : decode cM_best 146 = .ok (.aload_n 0, 1) := by decide +kernel
theorem dM_best_147 : decode cM_best 147 = .ok (.getfield 54, 3) := by decide +kernel
theorem dM_best_150 : decode cM_best 150 = .ok (.iload 4, 2) := by decide +kernel
theorem dM_best_152 : decode cM_best 152 = .ok (.iconst 0, 1) := by decide +kernel
theorem dM_best_153 : decode cM_best 153 = .ok (.iastore, 1) := by decide +kernel
theorem dM_best_154 : decode cM_best 154 = .ok (.iinc 4 1, 3) := by decide +kernel
theorem dM_best_157 : decode cM_best 157 = .ok (.goto 11, 3) := by decide +kernel
theorem dM_best_160 : decode cM_best 160 = .ok (.aload_n 0, 1) := by decide +kernel
theorem dM_best_161 : decode cM_best 161 = .ok (.iload 4, 2) := by decide +kernel
theorem dM_best_163 : decode cM_best 163 = .ok (.invokevirtual 143, 3) := by decide +kernel
theorem dM_best_166 : decode cM_best 166 = .ok (.istore 4, 2) := by decide +kernel
theorem dM_best_168 : decode cM_best 168 = .ok (.goto (-110), 3) := by decide +kernel
theorem dM_best_171 : decode cM_best 171 = .ok (.iload_n 2, 1) := by decide +kernel
theorem dM_best_172 : decode cM_best 172 = .ok (.ireturn, 1) := by decide +kernel
theorem dM_looked_0 : decode cM_looked 0 = .ok (.aload_n 0, 1) := by decide +kernel
theorem dM_looked_1 : decode cM_looked 1 = .ok (.iconst 0, 1) := by decide +kernel
theorem dM_looked_2 : decode cM_looked 2 = .ok (.putfield 70, 3) := by decide +kernel
theorem dM_looked_5 : decode cM_looked 5 = .ok (.aload_n 0, 1) := by decide +kernel
theorem dM_looked_6 : decode cM_looked 6 = .ok (.getfield 136, 3) := by decide +kernel
theorem dM_looked_9 : decode cM_looked 9 = .ok (.ireturn, 1) := by decide +kernel
theorem dM_bound_0 : decode cM_bound 0 = .ok (.aload_n 0, 1) := by decide +kernel
theorem dM_bound_1 : decode cM_bound 1 = .ok (.iconst 0, 1) := by decide +kernel
theorem dM_bound_2 : decode cM_bound 2 = .ok (.putfield 70, 3) := by decide +kernel
theorem dM_bound_5 : decode cM_bound 5 = .ok (.iload_n 1, 1) := by decide +kernel
theorem dM_bound_6 : decode cM_bound 6 = .ok (.iconst 0, 1) := by decide +kernel
theorem dM_bound_7 : decode cM_bound 7 = .ok (.iconst 3, 1) := by decide +kernel
theorem dM_bound_8 : decode cM_bound 8 = .ok (.invokestatic 73, 3) := by decide +kernel
theorem dM_bound_11 : decode cM_bound 11 = .ok (.ifCond .eq 23, 3) := by decide +kernel
theorem dM_bound_14 : decode cM_bound 14 = .ok (.aload_n 0, 1) := by decide +kernel
theorem dM_bound_15 : decode cM_bound 15 = .ok (.iload_n 2, 1) := by decide +kernel
theorem dM_bound_16 : decode cM_bound 16 = .ok (.invokevirtual 123, 3) := by decide +kernel
theorem dM_bound_19 : decode cM_bound 19 = .ok (.ifCond .eq 15, 3) := by decide +kernel
theorem dM_bound_22 : decode cM_bound 22 = .ok (.iload_n 3, 1) := by decide +kernel
theorem dM_bound_23 : decode cM_bound 23 = .ok (.iconst 0, 1) := by decide +kernel
theorem dM_bound_24 : decode cM_bound 24 = .ok (.aload_n 0, 1) := by decide +kernel
theorem dM_bound_25 : decode cM_bound 25 = .ok (.getfield 81, 3) := by decide +kernel
theorem dM_bound_28 : decode cM_bound 28 = .ok (.invokestatic 73, 3) := by decide +kernel
theorem dM_bound_31 : decode cM_bound 31 = .ok (.ifCond .ne 9, 3) := by decide +kernel
theorem dM_bound_34 : decode cM_bound 34 = .ok (.aload_n 0, 1) := by decide +kernel
theorem dM_bound_35 : decode cM_bound 35 = .ok (.iconst 1, 1) := by decide +kernel
theorem dM_bound_36 : decode cM_bound 36 = .ok (.invokevirtual 77, 3) := by decide +kernel
theorem dM_bound_39 : decode cM_bound 39 = .ok (.ireturn, 1) := by decide +kernel
theorem dM_bound_40 : decode cM_bound 40 = .ok (.aload_n 0, 1) := by decide +kernel
theorem dM_bound_41 : decode cM_bound 41 = .ok (.iload_n 2, 1) := by decide +kernel
theorem dM_bound_42 : decode cM_bound 42 = .ok (.iload_n 3, 1) := by decide +kernel
theorem dM_bound_43 : decode cM_bound 43 = .ok (.invokevirtual 112, 3) := by decide +kernel
theorem dM_bound_46 : decode cM_bound 46 = .ok (.aload_n 0, 1) := by decide +kernel
theorem dM_bound_47 : decode cM_bound 47 = .ok (.iload_n 1, 1) := by decide +kernel
theorem dM_bound_48 : decode cM_bound 48 = .ok (.invokevirtual 109, 3) := by decide +kernel
theorem dM_bound_51 : decode cM_bound 51 = .ok (.ireturn, 1) := by decide +kernel
theorem dM_nears_0 : decode cM_nears 0 = .ok (.iconst 0, 1) := by decide +kernel
theorem dM_nears_1 : decode cM_nears 1 = .ok (.istore_n 1, 1) := by decide +kernel
theorem dM_nears_2 : decode cM_nears 2 = .ok (.iconst 0, 1) := by decide +kernel
theorem dM_nears_3 : decode cM_nears 3 = .ok (.istore_n 2, 1) := by decide +kernel
theorem dM_nears_4 : decode cM_nears 4 = .ok (.iload_n 2, 1) := by decide +kernel
theorem dM_nears_5 : decode cM_nears 5 = .ok (.aload_n 0, 1) := by decide +kernel
theorem dM_nears_6 : decode cM_nears 6 = .ok (.getfield 81, 3) := by decide +kernel
theorem dM_nears_9 : decode cM_nears 9 = .ok (.if_icmp .ge 20, 3) := by decide +kernel
theorem dM_nears_12 : decode cM_nears 12 = .ok (.iload_n 1, 1) := by decide +kernel
theorem dM_nears_13 : decode cM_nears 13 = .ok (.aload_n 0, 1) := by decide +kernel
theorem dM_nears_14 : decode cM_nears 14 = .ok (.getfield 13, 3) := by decide +kernel
theorem dM_nears_17 : decode cM_nears 17 = .ok (.iload_n 2, 1) := by decide +kernel
theorem dM_nears_18 : decode cM_nears 18 = .ok (.iaload, 1) := by decide +kernel
theorem dM_nears_19 : decode cM_nears 19 = .ok (.iconst 1, 1) := by decide +kernel
theorem dM_nears_20 : decode cM_nears 20 = .ok (.isub, 1) := by decide +kernel
theorem dM_nears_21 : decode cM_nears 21 = .ok (.iadd, 1) := by decide +kernel
theorem dM_nears_22 : decode cM_nears 22 = .ok (.istore_n 1, 1) := by decide +kernel
theorem dM_nears_23 : decode cM_nears 23 = .ok (.iinc 2 1, 3) := by decide +kernel
theorem dM_nears_26 : decode cM_nears 26 = .ok (.goto (-22), 3) := by decide +kernel
theorem dM_nears_29 : decode cM_nears 29 = .ok (.iload_n 1, 1) := by decide +kernel
theorem dM_nears_30 : decode cM_nears 30 = .ok (.ireturn, 1) := by decide +kernel
theorem dM_nearOf_0 : decode cM_nearOf 0 = .ok (.aload_n 0, 1) := by decide +kernel
theorem dM_nearOf_1 : decode cM_nearOf 1 = .ok (.iload_n 1, 1) := by decide +kernel
theorem dM_nearOf_2 : decode cM_nearOf 2 = .ok (.aload_n 0, 1) := by decide +kernel
theorem dM_nearOf_3 : decode cM_nearOf 3 = .ok (.getfield 81, 3) := by decide +kernel
theorem dM_nearOf_6 : decode cM_nearOf 6 = .ok (.invokevirtual 112, 3) := by decide +kernel
theorem dM_nearOf_9 : decode cM_nearOf 9 = .ok (.iload_n 2, 1) := by decide +kernel
theorem dM_nearOf_10 : decode cM_nearOf 10 = .ok (.istore_n 3, 1) := by decide +kernel
theorem dM_nearOf_11 : decode cM_nearOf 11 = .ok (.iconst 0, 1) := by decide +kernel
theorem dM_nearOf_12 : decode cM_nearOf 12 = .ok (.istore 4, 2) := by decide +kernel
theorem dM_nearOf_14 : decode cM_nearOf 14 = .ok (.iload 4, 2) := by decide +kernel
theorem dM_nearOf_16 : decode cM_nearOf 16 = .ok (.aload_n 0, 1) := by decide +kernel
theorem dM_nearOf_17 : decode cM_nearOf 17 = .ok (.getfield 81, 3) := by decide +kernel
theorem dM_nearOf_20 : decode cM_nearOf 20 = .ok (.if_icmp .ge 63, 3) := by decide +kernel
theorem dM_nearOf_23 : decode cM_nearOf 23 = .ok (.iconst 0, 1) := by decide +kernel
theorem dM_nearOf_24 : decode cM_nearOf 24 = .ok (.istore 5, 2) := by decide +kernel
theorem dM_nearOf_26 : decode cM_nearOf 26 = .ok (.iload 5, 2) := by decide +kernel
theorem dM_nearOf_28 : decode cM_nearOf 28 = .ok (.aload_n 0, 1) := by decide +kernel
theorem dM_nearOf_29 : decode cM_nearOf 29 = .ok (.getfield 13, 3) := by decide +kernel
theorem dM_nearOf_32 : decode cM_nearOf 32 = .ok (.iload 4, 2) := by decide +kernel
theorem dM_nearOf_34 : decode cM_nearOf 34 = .ok (.iaload, 1) := by decide +kernel
theorem dM_nearOf_35 : decode cM_nearOf 35 = .ok (.if_icmp .ge 42, 3) := by decide +kernel
theorem dM_nearOf_38 : decode cM_nearOf 38 = .ok (.iload 5, 2) := by decide +kernel
theorem dM_nearOf_40 : decode cM_nearOf 40 = .ok (.aload_n 0, 1) := by decide +kernel
theorem dM_nearOf_41 : decode cM_nearOf 41 = .ok (.getfield 54, 3) := by decide +kernel
theorem dM_nearOf_44 : decode cM_nearOf 44 = .ok (.iload 4, 2) := by decide +kernel
theorem dM_nearOf_46 : decode cM_nearOf 46 = .ok (.iaload, 1) := by decide +kernel
theorem dM_nearOf_47 : decode cM_nearOf 47 = .ok (.if_icmp .eq 24, 3) := by decide +kernel
theorem dM_nearOf_50 : decode cM_nearOf 50 = .ok (.iload_n 3, 1) := by decide +kernel
theorem dM_nearOf_51 : decode cM_nearOf 51 = .ok (.ifCond .ne 17, 3) := by decide +kernel
theorem dM_nearOf_54 : decode cM_nearOf 54 = .ok (.aload_n 0, 1) := by decide +kernel
theorem dM_nearOf_55 : decode cM_nearOf 55 = .ok (.getfield 54, 3) := by decide +kernel
theorem dM_nearOf_58 : decode cM_nearOf 58 = .ok (.iload 4, 2) := by decide +kernel
theorem dM_nearOf_60 : decode cM_nearOf 60 = .ok (.iload 5, 2) := by decide +kernel
theorem dM_nearOf_62 : decode cM_nearOf 62 = .ok (.iastore, 1) := by decide +kernel
theorem dM_nearOf_63 : decode cM_nearOf 63 = .ok (.aload_n 0, 1) := by decide +kernel
theorem dM_nearOf_64 : decode cM_nearOf 64 = .ok (.invokevirtual 139, 3) := by decide +kernel
theorem dM_nearOf_67 : decode cM_nearOf 67 = .ok (.ireturn, 1) := by decide +kernel
theorem dM_nearOf_68 : decode cM_nearOf 68 = .ok (.iinc 3 (-1), 3) := by decide +kernel
theorem dM_nearOf_71 : decode cM_nearOf 71 = .ok (.iinc 5 1, 3) := by decide +kernel
theorem dM_nearOf_74 : decode cM_nearOf 74 = .ok (.goto (-48), 3) := by decide +kernel
theorem dM_nearOf_77 : decode cM_nearOf 77 = .ok (.iinc 4 1, 3) := by decide +kernel
theorem dM_nearOf_80 : decode cM_nearOf 80 = .ok (.goto (-66), 3) := by decide +kernel
theorem dM_nearOf_83 : decode cM_nearOf 83 = .ok (.iconst (-1), 1) := by decide +kernel
theorem dM_nearOf_84 : decode cM_nearOf 84 = .ok (.ireturn, 1) := by decide +kernel
theorem dM_near_0 : decode cM_near 0 = .ok (.aload_n 0, 1) := by decide +kernel
theorem dM_near_1 : decode cM_near 1 = .ok (.iconst 0, 1) := by decide +kernel
theorem dM_near_2 : decode cM_near 2 = .ok (.putfield 70, 3) := by decide +kernel
theorem dM_near_5 : decode cM_near 5 = .ok (.aload_n 0, 1) := by decide +kernel
theorem dM_near_6 : decode cM_near 6 = .ok (.iload_n 1, 1) := by decide +kernel
theorem dM_near_7 : decode cM_near 7 = .ok (.invokevirtual 123, 3) := by decide +kernel
theorem dM_near_10 : decode cM_near 10 = .ok (.ifCond .eq 17, 3) := by decide +kernel
theorem dM_near_13 : decode cM_near 13 = .ok (.iload_n 2, 1) := by decide +kernel
theorem dM_near_14 : decode cM_near 14 = .ok (.iconst 0, 1) := by decide +kernel
theorem dM_near_15 : decode cM_near 15 = .ok (.aload_n 0, 1) := by decide +kernel
theorem dM_near_16 : decode cM_near 16 = .ok (.invokevirtual 146, 3) := by decide +kernel
theorem dM_near_19 : decode cM_near 19 = .ok (.iconst 1, 1) := by decide +kernel
theorem dM_near_20 : decode cM_near 20 = .ok (.isub, 1) := by decide +kernel
theorem dM_near_21 : decode cM_near 21 = .ok (.invokestatic 73, 3) := by decide +kernel
theorem dM_near_24 : decode cM_near 24 = .ok (.ifCond .ne 9, 3) := by decide +kernel
theorem dM_near_27 : decode cM_near 27 = .ok (.aload_n 0, 1) := by decide +kernel
theorem dM_near_28 : decode cM_near 28 = .ok (.iconst 1, 1) := by decide +kernel
theorem dM_near_29 : decode cM_near 29 = .ok (.invokevirtual 77, 3) := by decide +kernel
theorem dM_near_32 : decode cM_near 32 = .ok (.ireturn, 1) := by decide +kernel
theorem dM_near_33 : decode cM_near 33 = .ok (.aload_n 0, 1) := by decide +kernel
theorem dM_near_34 : decode cM_near 34 = .ok (.iload_n 1, 1) := by decide +kernel
theorem dM_near_35 : decode cM_near 35 = .ok (.iload_n 2, 1) := by decide +kernel
theorem dM_near_36 : decode cM_near 36 = .ok (.invokevirtual 149, 3) := by decide +kernel
theorem dM_near_39 : decode cM_near 39 = .ok (.ireturn, 1) := by decide +kernel
theorem dM_slack_0 : decode cM_slack 0 = .ok (.aload_n 0, 1) := by decide +kernel
theorem dM_slack_1 : decode cM_slack 1 = .ok (.iconst 0, 1) := by decide +kernel
theorem dM_slack_2 : decode cM_slack 2 = .ok (.putfield 70, 3) := by decide +kernel
theorem dM_slack_5 : decode cM_slack 5 = .ok (.iload_n 1, 1) := by decide +kernel
theorem dM_slack_6 : decode cM_slack 6 = .ok (.ifCond .ge 9, 3) := by decide +kernel
theorem dM_slack_9 : decode cM_slack 9 = .ok (.aload_n 0, 1) := by decide +kernel
theorem dM_slack_10 : decode cM_slack 10 = .ok (.iconst 1, 1) := by decide +kernel
theorem dM_slack_11 : decode cM_slack 11 = .ok (.invokevirtual 77, 3) := by decide +kernel
theorem dM_slack_14 : decode cM_slack 14 = .ok (.ireturn, 1) := by decide +kernel
theorem dM_slack_15 : decode cM_slack 15 = .ok (.aload_n 0, 1) := by decide +kernel
theorem dM_slack_16 : decode cM_slack 16 = .ok (.getfield 153, 3) := by decide +kernel
theorem dM_slack_19 : decode cM_slack 19 = .ok (.istore_n 2, 1) := by decide +kernel
theorem dM_slack_20 : decode cM_slack 20 = .ok (.aload_n 0, 1) := by decide +kernel
theorem dM_slack_21 : decode cM_slack 21 = .ok (.iload_n 1, 1) := by decide +kernel
theorem dM_slack_22 : decode cM_slack 22 = .ok (.putfield 153, 3) := by decide +kernel
theorem dM_slack_25 : decode cM_slack 25 = .ok (.iload_n 2, 1) := by decide +kernel
theorem dM_slack_26 : decode cM_slack 26 = .ok (.ireturn, 1) := by decide +kernel
theorem dM_cost_0 : decode cM_cost 0 = .ok (.aload_n 0, 1) := by decide +kernel
theorem dM_cost_1 : decode cM_cost 1 = .ok (.getfield 63, 3) := by decide +kernel
theorem dM_cost_4 : decode cM_cost 4 = .ok (.iconst 4, 1) := by decide +kernel
theorem dM_cost_5 : decode cM_cost 5 = .ok (.iload_n 1, 1) := by decide +kernel
theorem dM_cost_6 : decode cM_cost 6 = .ok (.imul, 1) := by decide +kernel
theorem dM_cost_7 : decode cM_cost 7 = .ok (.iaload, 1) := by decide +kernel
theorem dM_cost_8 : decode cM_cost 8 = .ok (.i2l, 1) := by decide +kernel
theorem dM_cost_9 : decode cM_cost 9 = .ok (.aload_n 0, 1) := by decide +kernel
theorem dM_cost_10 : decode cM_cost 10 = .ok (.getfield 63, 3) := by decide +kernel
theorem dM_cost_13 : decode cM_cost 13 = .ok (.iconst 4, 1) := by decide +kernel
theorem dM_cost_14 : decode cM_cost 14 = .ok (.iload_n 1, 1) := by decide +kernel
theorem dM_cost_15 : decode cM_cost 15 = .ok (.imul, 1) := by decide +kernel
theorem dM_cost_16 : decode cM_cost 16 = .ok (.iconst 1, 1) := by decide +kernel
theorem dM_cost_17 : decode cM_cost 17 = .ok (.iadd, 1) := by decide +kernel
theorem dM_cost_18 : decode cM_cost 18 = .ok (.iaload, 1) := by decide +kernel
theorem dM_cost_19 : decode cM_cost 19 = .ok (.i2l, 1) := by decide +kernel
theorem dM_cost_20 : decode cM_cost 20 = .ok (.ladd, 1) := by decide +kernel
theorem dM_cost_21 : decode cM_cost 21 = .ok (.aload_n 0, 1) := by decide +kernel
theorem dM_cost_22 : decode cM_cost 22 = .ok (.getfield 63, 3) := by decide +kernel
theorem dM_cost_25 : decode cM_cost 25 = .ok (.iconst 4, 1) := by decide +kernel
theorem dM_cost_26 : decode cM_cost 26 = .ok (.iload_n 1, 1) := by decide +kernel
theorem dM_cost_27 : decode cM_cost 27 = .ok (.imul, 1) := by decide +kernel
theorem dM_cost_28 : decode cM_cost 28 = .ok (.iconst 2, 1) := by decide +kernel
theorem dM_cost_29 : decode cM_cost 29 = .ok (.iadd, 1) := by decide +kernel
theorem dM_cost_30 : decode cM_cost 30 = .ok (.iaload, 1) := by decide +kernel
theorem dM_cost_31 : decode cM_cost 31 = .ok (.i2l, 1) := by decide +kernel
theorem dM_cost_32 : decode cM_cost 32 = .ok (.ladd, 1) := by decide +kernel
theorem dM_cost_33 : decode cM_cost 33 = .ok (.aload_n 0, 1) := by decide +kernel
theorem dM_cost_34 : decode cM_cost 34 = .ok (.getfield 63, 3) := by decide +kernel
theorem dM_cost_37 : decode cM_cost 37 = .ok (.iconst 4, 1) := by decide +kernel
theorem dM_cost_38 : decode cM_cost 38 = .ok (.iload_n 1, 1) := by decide +kernel
theorem dM_cost_39 : decode cM_cost 39 = .ok (.imul, 1) := by decide +kernel
theorem dM_cost_40 : decode cM_cost 40 = .ok (.iconst 3, 1) := by decide +kernel
theorem dM_cost_41 : decode cM_cost 41 = .ok (.iadd, 1) := by decide +kernel
