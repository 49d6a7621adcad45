theorem dM_closed_20 : decode cM_closed 20 = .ok (.aload_n 0, 1) := by decide +kernel
theorem dM_closed_21 : decode cM_closed 21 = .ok (.getfield 54, 3) := by decide +kernel
theorem dM_closed_24 : decode cM_closed 24 = .ok (.iload_n 2, 1) := by decide +kernel
theorem dM_closed_25 : decode cM_closed 25 = .ok (.iaload, 1) := by decide +kernel
theorem dM_closed_26 : decode cM_closed 26 = .ok (.iadd, 1) := by decide +kernel
theorem dM_closed_27 : decode cM_closed 27 = .ok (.istore_n 1, 1) := by decide +kernel
theorem dM_closed_28 : decode cM_closed 28 = .ok (.iinc 2 1, 3) := by decide +kernel
theorem dM_closed_31 : decode cM_closed 31 = .ok (.goto (-27), 3) := by decide +kernel
theorem dM_closed_34 : decode cM_closed 34 = .ok (.iload_n 1, 1) := by decide +kernel
theorem dM_closed_35 : decode cM_closed 35 = .ok (.ireturn, 1) := by decide +kernel
theorem dM_isBarred_0 : decode cM_isBarred 0 = .ok (.iconst 0, 1) := by decide +kernel
theorem dM_isBarred_1 : decode cM_isBarred 1 = .ok (.istore_n 1, 1) := by decide +kernel
theorem dM_isBarred_2 : decode cM_isBarred 2 = .ok (.iconst 0, 1) := by decide +kernel
theorem dM_isBarred_3 : decode cM_isBarred 3 = .ok (.istore_n 2, 1) := by decide +kernel
theorem dM_isBarred_4 : decode cM_isBarred 4 = .ok (.iload_n 2, 1) := by decide +kernel
theorem dM_isBarred_5 : decode cM_isBarred 5 = .ok (.aload_n 0, 1) := by decide +kernel
theorem dM_isBarred_6 : decode cM_isBarred 6 = .ok (.getfield 103, 3) := by decide +kernel
theorem dM_isBarred_9 : decode cM_isBarred 9 = .ok (.if_icmp .ge 59, 3) := by decide +kernel
theorem dM_isBarred_12 : decode cM_isBarred 12 = .ok (.iload_n 1, 1) := by decide +kernel
theorem dM_isBarred_13 : decode cM_isBarred 13 = .ok (.ifCond .ne 43, 3) := by decide +kernel
theorem dM_isBarred_16 : decode cM_isBarred 16 = .ok (.aload_n 0, 1) := by decide +kernel
theorem dM_isBarred_17 : decode cM_isBarred 17 = .ok (.getfield 54, 3) := by decide +kernel
theorem dM_isBarred_20 : decode cM_isBarred 20 = .ok (.aload_n 0, 1) := by decide +kernel
theorem dM_isBarred_21 : decode cM_isBarred 21 = .ok (.getfield 35, 3) := by decide +kernel
theorem dM_isBarred_24 : decode cM_isBarred 24 = .ok (.iload_n 2, 1) := by decide +kernel
theorem dM_isBarred_25 : decode cM_isBarred 25 = .ok (.iaload, 1) := by decide +kernel
theorem dM_isBarred_26 : decode cM_isBarred 26 = .ok (.iaload, 1) := by decide +kernel
theorem dM_isBarred_27 : decode cM_isBarred 27 = .ok (.aload_n 0, 1) := by decide +kernel
theorem dM_isBarred_28 : decode cM_isBarred 28 = .ok (.getfield 38, 3) := by decide +kernel
theorem dM_isBarred_31 : decode cM_isBarred 31 = .ok (.iload_n 2, 1) := by decide +kernel
theorem dM_isBarred_32 : decode cM_isBarred 32 = .ok (.iaload, 1) := by decide +kernel
theorem dM_isBarred_33 : decode cM_isBarred 33 = .ok (.if_icmp .ne 27, 3) := by decide +kernel
theorem dM_isBarred_36 : decode cM_isBarred 36 = .ok (.aload_n 0, 1) := by decide +kernel
theorem dM_isBarred_37 : decode cM_isBarred 37 = .ok (.getfield 54, 3) := by decide +kernel
theorem dM_isBarred_40 : decode cM_isBarred 40 = .ok (.aload_n 0, 1) := by decide +kernel
theorem dM_isBarred_41 : decode cM_isBarred 41 = .ok (.getfield 41, 3) := by decide +kernel
theorem dM_isBarred_44 : decode cM_isBarred 44 = .ok (.iload_n 2, 1) := by decide +kernel
theorem dM_isBarred_45 : decode cM_isBarred 45 = .ok (.iaload, 1) := by decide +kernel
theorem dM_isBarred_46 : decode cM_isBarred 46 = .ok (.iaload, 1) := by decide +kernel
theorem dM_isBarred_47 : decode cM_isBarred 47 = .ok (.aload_n 0, 1) := by decide +kernel
theorem dM_isBarred_48 : decode cM_isBarred 48 = .ok (.getfield 44, 3) := by decide +kernel
theorem dM_isBarred_51 : decode cM_isBarred 51 = .ok (.iload_n 2, 1) := by decide +kernel
theorem dM_isBarred_52 : decode cM_isBarred 52 = .ok (.iaload, 1) := by decide +kernel
theorem dM_isBarred_53 : decode cM_isBarred 53 = .ok (.if_icmp .ne 7, 3) := by decide +kernel
theorem dM_isBarred_56 : decode cM_isBarred 56 = .ok (.iconst 1, 1) := by decide +kernel
theorem dM_isBarred_57 : decode cM_isBarred 57 = .ok (.goto 4, 3) := by decide +kernel
theorem dM_isBarred_60 : decode cM_isBarred 60 = .ok (.iconst 0, 1) := by decide +kernel
theorem dM_isBarred_61 : decode cM_isBarred 61 = .ok (.istore_n 1, 1) := by decide +kernel
theorem dM_isBarred_62 : decode cM_isBarred 62 = .ok (.iinc 2 1, 3) := by decide +kernel
theorem dM_isBarred_65 : decode cM_isBarred 65 = .ok (.goto (-61), 3) := by decide +kernel
theorem dM_isBarred_68 : decode cM_isBarred 68 = .ok (.iload_n 1, 1) := by decide +kernel
theorem dM_isBarred_69 : decode cM_isBarred 69 = .ok (.ireturn, 1) := by decide +kernel
theorem dM_counts_0 : decode cM_counts 0 = .ok (.aload_n 0, 1) := by decide +kernel
theorem dM_counts_1 : decode cM_counts 1 = .ok (.getfield 54, 3) := by decide +kernel
theorem dM_counts_4 : decode cM_counts 4 = .ok (.aload_n 0, 1) := by decide +kernel
theorem dM_counts_5 : decode cM_counts 5 = .ok (.getfield 20, 3) := by decide +kernel
theorem dM_counts_8 : decode cM_counts 8 = .ok (.iload_n 1, 1) := by decide +kernel
theorem dM_counts_9 : decode cM_counts 9 = .ok (.iaload, 1) := by decide +kernel
theorem dM_counts_10 : decode cM_counts 10 = .ok (.iaload, 1) := by decide +kernel
theorem dM_counts_11 : decode cM_counts 11 = .ok (.aload_n 0, 1) := by decide +kernel
theorem dM_counts_12 : decode cM_counts 12 = .ok (.getfield 23, 3) := by decide +kernel
theorem dM_counts_15 : decode cM_counts 15 = .ok (.iload_n 1, 1) := by decide +kernel
theorem dM_counts_16 : decode cM_counts 16 = .ok (.iaload, 1) := by decide +kernel
theorem dM_counts_17 : decode cM_counts 17 = .ok (.if_icmp .ne 7, 3) := by decide +kernel
theorem dM_counts_20 : decode cM_counts 20 = .ok (.iconst 1, 1) := by decide +kernel
theorem dM_counts_21 : decode cM_counts 21 = .ok (.goto 4, 3) := by decide +kernel
theorem dM_counts_24 : decode cM_counts 24 = .ok (.iconst 0, 1) := by decide +kernel
theorem dM_counts_25 : decode cM_counts 25 = .ok (.istore_n 2, 1) := by decide +kernel
theorem dM_counts_26 : decode cM_counts 26 = .ok (.aload_n 0, 1) := by decide +kernel
theorem dM_counts_27 : decode cM_counts 27 = .ok (.getfield 26, 3) := by decide +kernel
theorem dM_counts_30 : decode cM_counts 30 = .ok (.iload_n 1, 1) := by decide +kernel
theorem dM_counts_31 : decode cM_counts 31 = .ok (.iaload, 1) := by decide +kernel
theorem dM_counts_32 : decode cM_counts 32 = .ok (.ifCond .lt 23, 3) := by decide +kernel
theorem dM_counts_35 : decode cM_counts 35 = .ok (.aload_n 0, 1) := by decide +kernel
theorem dM_counts_36 : decode cM_counts 36 = .ok (.getfield 54, 3) := by decide +kernel
theorem dM_counts_39 : decode cM_counts 39 = .ok (.aload_n 0, 1) := by decide +kernel
theorem dM_counts_40 : decode cM_counts 40 = .ok (.getfield 26, 3) := by decide +kernel
theorem dM_counts_43 : decode cM_counts 43 = .ok (.iload_n 1, 1) := by decide +kernel
theorem dM_counts_44 : decode cM_counts 44 = .ok (.iaload, 1) := by decide +kernel
theorem dM_counts_45 : decode cM_counts 45 = .ok (.iaload, 1) := by decide +kernel
theorem dM_counts_46 : decode cM_counts 46 = .ok (.aload_n 0, 1) := by decide +kernel
theorem dM_counts_47 : decode cM_counts 47 = .ok (.getfield 29, 3) := by decide +kernel
theorem dM_counts_50 : decode cM_counts 50 = .ok (.iload_n 1, 1) := by decide +kernel
theorem dM_counts_51 : decode cM_counts 51 = .ok (.iaload, 1) := by decide +kernel
theorem dM_counts_52 : decode cM_counts 52 = .ok (.if_icmp .ne 7, 3) := by decide +kernel
theorem dM_counts_55 : decode cM_counts 55 = .ok (.iconst 1, 1) := by decide +kernel
theorem dM_counts_56 : decode cM_counts 56 = .ok (.goto 4, 3) := by decide +kernel
theorem dM_counts_59 : decode cM_counts 59 = .ok (.iconst 0, 1) := by decide +kernel
theorem dM_counts_60 : decode cM_counts 60 = .ok (.istore_n 3, 1) := by decide +kernel
theorem dM_counts_61 : decode cM_counts 61 = .ok (.iload_n 2, 1) := by decide +kernel
theorem dM_counts_62 : decode cM_counts 62 = .ok (.ifCond .ne 17, 3) := by decide +kernel
theorem dM_counts_65 : decode cM_counts 65 = .ok (.aload_n 0, 1) := by decide +kernel
theorem dM_counts_66 : decode cM_counts 66 = .ok (.getfield 54, 3) := by decide +kernel
theorem dM_counts_69 : decode cM_counts 69 = .ok (.aload_n 0, 1) := by decide +kernel
theorem dM_counts_70 : decode cM_counts 70 = .ok (.getfield 20, 3) := by decide +kernel
theorem dM_counts_73 : decode cM_counts 73 = .ok (.iload_n 1, 1) := by decide +kernel
theorem dM_counts_74 : decode cM_counts 74 = .ok (.iaload, 1) := by decide +kernel
theorem dM_counts_75 : decode cM_counts 75 = .ok (.iaload, 1) := by decide +kernel
theorem dM_counts_76 : decode cM_counts 76 = .ok (.ifCond .ge 21, 3) := by decide +kernel
theorem dM_counts_79 : decode cM_counts 79 = .ok (.iload_n 3, 1) := by decide +kernel
theorem dM_counts_80 : decode cM_counts 80 = .ok (.ifCond .ne 21, 3) := by decide +kernel
theorem dM_counts_83 : decode cM_counts 83 = .ok (.aload_n 0, 1) := by decide +kernel
theorem dM_counts_84 : decode cM_counts 84 = .ok (.getfield 54, 3) := by decide +kernel
theorem dM_counts_87 : decode cM_counts 87 = .ok (.aload_n 0, 1) := by decide +kernel
theorem dM_counts_88 : decode cM_counts 88 = .ok (.getfield 26, 3) := by decide +kernel
theorem dM_counts_91 : decode cM_counts 91 = .ok (.iload_n 1, 1) := by decide +kernel
theorem dM_counts_92 : decode cM_counts 92 = .ok (.iaload, 1) := by decide +kernel
theorem dM_counts_93 : decode cM_counts 93 = .ok (.iaload, 1) := by decide +kernel
theorem dM_counts_94 : decode cM_counts 94 = .ok (.ifCond .lt 7, 3) := by decide +kernel
theorem dM_counts_97 : decode cM_counts 97 = .ok (.iconst 1, 1) := by decide +kernel
theorem dM_counts_98 : decode cM_counts 98 = .ok (.goto 4, 3) := by decide +kernel
theorem dM_counts_101 : decode cM_counts 101 = .ok (.iconst 0, 1) := by decide +kernel
theorem dM_counts_102 : decode cM_counts 102 = .ok (.istore 4, 2) := by decide +kernel
theorem dM_counts_104 : decode cM_counts 104 = .ok (.iload 4, 2) := by decide +kernel
theorem dM_counts_106 : decode cM_counts 106 = .ok (.ifCond .eq 7, 3) := by decide +kernel
theorem dM_counts_109 : decode cM_counts 109 = .ok (.iconst (-1), 1) := by decide +kernel
theorem dM_counts_110 : decode cM_counts 110 = .ok (.goto 16, 3) := by decide +kernel
theorem dM_counts_113 : decode cM_counts 113 = .ok (.iload_n 2, 1) := by decide +kernel
theorem dM_counts_114 : decode cM_counts 114 = .ok (.ifCond .eq 11, 3) := by decide +kernel
theorem dM_counts_117 : decode cM_counts 117 = .ok (.iload_n 3, 1) := by decide +kernel
theorem dM_counts_118 : decode cM_counts 118 = .ok (.ifCond .eq 7, 3) := by decide +kernel
theorem dM_counts_121 : decode cM_counts 121 = .ok (.iconst 1, 1) := by decide +kernel
theorem dM_counts_122 : decode cM_counts 122 = .ok (.goto 4, 3) := by decide +kernel
theorem dM_counts_125 : decode cM_counts 125 = .ok (.iconst 0, 1) := by decide +kernel
theorem dM_counts_126 : decode cM_counts 126 = .ok (.ireturn, 1) := by decide +kernel
theorem dM_boundOf_0 : decode cM_boundOf 0 = .ok (.iconst 0, 1) := by decide +kernel
theorem dM_boundOf_1 : decode cM_boundOf 1 = .ok (.istore_n 2, 1) := by decide +kernel
theorem dM_boundOf_2 : decode cM_boundOf 2 = .ok (.iconst 0, 1) := by decide +kernel
theorem dM_boundOf_3 : decode cM_boundOf 3 = .ok (.istore_n 3, 1) := by decide +kernel
theorem dM_boundOf_4 : decode cM_boundOf 4 = .ok (.iload_n 3, 1) := by decide +kernel
theorem dM_boundOf_5 : decode cM_boundOf 5 = .ok (.aload_n 0, 1) := by decide +kernel
theorem dM_boundOf_6 : decode cM_boundOf 6 = .ok (.getfield 100, 3) := by decide +kernel
theorem dM_boundOf_9 : decode cM_boundOf 9 = .ok (.if_icmp .ge 59, 3) := by decide +kernel
theorem dM_boundOf_12 : decode cM_boundOf 12 = .ok (.aload_n 0, 1) := by decide +kernel
theorem dM_boundOf_13 : decode cM_boundOf 13 = .ok (.getfield 17, 3) := by decide +kernel
theorem dM_boundOf_16 : decode cM_boundOf 16 = .ok (.iload_n 3, 1) := by decide +kernel
theorem dM_boundOf_17 : decode cM_boundOf 17 = .ok (.iaload, 1) := by decide +kernel
theorem dM_boundOf_18 : decode cM_boundOf 18 = .ok (.iload_n 1, 1) := by decide +kernel
theorem dM_boundOf_19 : decode cM_boundOf 19 = .ok (.if_icmp .ne 43, 3) := by decide +kernel
theorem dM_boundOf_22 : decode cM_boundOf 22 = .ok (.aload_n 0, 1) := by decide +kernel
theorem dM_boundOf_23 : decode cM_boundOf 23 = .ok (.iload_n 3, 1) := by decide +kernel
theorem dM_boundOf_24 : decode cM_boundOf 24 = .ok (.invokevirtual 106, 3) := by decide +kernel
theorem dM_boundOf_27 : decode cM_boundOf 27 = .ok (.istore 4, 2) := by decide +kernel
theorem dM_boundOf_29 : decode cM_boundOf 29 = .ok (.iload_n 2, 1) := by decide +kernel
theorem dM_boundOf_30 : decode cM_boundOf 30 = .ok (.iload 4, 2) := by decide +kernel
theorem dM_boundOf_32 : decode cM_boundOf 32 = .ok (.iconst 1, 1) := by decide +kernel
theorem dM_boundOf_33 : decode cM_boundOf 33 = .ok (.if_icmp .eq 17, 3) := by decide +kernel
theorem dM_boundOf_36 : decode cM_boundOf 36 = .ok (.iload 4, 2) := by decide +kernel
theorem dM_boundOf_38 : decode cM_boundOf 38 = .ok (.ifCond .ne 21, 3) := by decide +kernel
theorem dM_boundOf_41 : decode cM_boundOf 41 = .ok (.aload_n 0, 1) := by decide +kernel
theorem dM_boundOf_42 : decode cM_boundOf 42 = .ok (.getfield 32, 3) := by decide +kernel
theorem dM_boundOf_45 : decode cM_boundOf 45 = .ok (.iload_n 3, 1) := by decide +kernel
theorem dM_boundOf_46 : decode cM_boundOf 46 = .ok (.iaload, 1) := by decide +kernel
theorem dM_boundOf_47 : decode cM_boundOf 47 = .ok (.ifCond .ge 12, 3) := by decide +kernel
theorem dM_boundOf_50 : decode cM_boundOf 50 = .ok (.aload_n 0, 1) := by decide +kernel
theorem dM_boundOf_51 : decode cM_boundOf 51 = .ok (.getfield 32, 3) := by decide +kernel
theorem dM_boundOf_54 : decode cM_boundOf 54 = .ok (.iload_n 3, 1) := by decide +kernel
theorem dM_boundOf_55 : decode cM_boundOf 55 = .ok (.iaload, 1) := by decide +kernel
theorem dM_boundOf_56 : decode cM_boundOf 56 = .ok (.goto 4, 3) := by decide +kernel
theorem dM_boundOf_59 : decode cM_boundOf 59 = .ok (.iconst 0, 1) := by decide +kernel
theorem dM_boundOf_60 : decode cM_boundOf 60 = .ok (.iadd, 1) := by decide +kernel
theorem dM_boundOf_61 : decode cM_boundOf 61 = .ok (.istore_n 2, 1) := by decide +kernel
theorem dM_boundOf_62 : decode cM_boundOf 62 = .ok (.iinc 3 1, 3) := by decide +kernel
theorem dM_boundOf_65 : decode cM_boundOf 65 = .ok (.goto (-61), 3) := by decide +kernel
theorem dM_boundOf_68 : decode cM_boundOf 68 = .ok (.iload_n 2, 1) := by decide +kernel
theorem dM_boundOf_69 : decode cM_boundOf 69 = .ok (.ireturn, 1) := by decide +kernel
theorem dM_passesLimits_0 : decode cM_passesLimits 0 = .ok (.iconst 0, 1) := by decide +kernel
theorem dM_passesLimits_1 : decode cM_passesLimits 1 = .ok (.istore_n 1, 1) := by decide +kernel
theorem dM_passesLimits_2 : decode cM_passesLimits 2 = .ok (.iconst 0, 1) := by decide +kernel
theorem dM_passesLimits_3 : decode cM_passesLimits 3 = .ok (.istore_n 2, 1) := by decide +kernel
theorem dM_passesLimits_4 : decode cM_passesLimits 4 = .ok (.iload_n 2, 1) := by decide +kernel
theorem dM_passesLimits_5 : decode cM_passesLimits 5 = .ok (.iconst 4, 1) := by decide +kernel
theorem dM_passesLimits_6 : decode cM_passesLimits 6 = .ok (.if_icmp .ge 42, 3) := by decide +kernel
theorem dM_passesLimits_9 : decode cM_passesLimits 9 = .ok (.iload_n 1, 1) := by decide +kernel
theorem dM_passesLimits_10 : decode cM_passesLimits 10 = .ok (.ifCond .ne 26, 3) := by decide +kernel
theorem dM_passesLimits_13 : decode cM_passesLimits 13 = .ok (.aload_n 0, 1) := by decide +kernel
theorem dM_passesLimits_14 : decode cM_passesLimits 14 = .ok (.getfield 47, 3) := by decide +kernel
theorem dM_passesLimits_17 : decode cM_passesLimits 17 = .ok (.iload_n 2, 1) := by decide +kernel
theorem dM_passesLimits_18 : decode cM_passesLimits 18 = .ok (.baload, 1) := by decide +kernel
theorem dM_passesLimits_19 : decode cM_passesLimits 19 = .ok (.ifCond .eq 21, 3) := by decide +kernel
theorem dM_passesLimits_22 : decode cM_passesLimits 22 = .ok (.aload_n 0, 1) := by decide +kernel
theorem dM_passesLimits_23 : decode cM_passesLimits 23 = .ok (.iload_n 2, 1) := by decide +kernel
theorem dM_passesLimits_24 : decode cM_passesLimits 24 = .ok (.invokevirtual 109, 3) := by decide +kernel
theorem dM_passesLimits_27 : decode cM_passesLimits 27 = .ok (.aload_n 0, 1) := by decide +kernel
theorem dM_passesLimits_28 : decode cM_passesLimits 28 = .ok (.getfield 51, 3) := by decide +kernel
theorem dM_passesLimits_31 : decode cM_passesLimits 31 = .ok (.iload_n 2, 1) := by decide +kernel
theorem dM_passesLimits_32 : decode cM_passesLimits 32 = .ok (.iaload, 1) := by decide +kernel
theorem dM_passesLimits_33 : decode cM_passesLimits 33 = .ok (.if_icmp .le 7, 3) := by decide +kernel
theorem dM_passesLimits_36 : decode cM_passesLimits 36 = .ok (.iconst 1, 1) := by decide +kernel
theorem dM_passesLimits_37 : decode cM_passesLimits 37 = .ok (.goto 4, 3) := by decide +kernel
theorem dM_passesLimits_40 : decode cM_passesLimits 40 = .ok (.iconst 0, 1) := by decide +kernel
theorem dM_passesLimits_41 : decode cM_passesLimits 41 = .ok (.istore_n 1, 1) := by decide +kernel
theorem dM_passesLimits_42 : decode cM_passesLimits 42 = .ok (.iinc 2 1, 3) := by decide +kernel
theorem dM_passesLimits_45 : decode cM_passesLimits 45 = .ok (.goto (-41), 3) := by decide +kernel
theorem dM_passesLimits_48 : decode cM_passesLimits 48 = .ok (.iload_n 1, 1) := by decide +kernel
theorem dM_passesLimits_49 : decode cM_passesLimits 49 = .ok (.ireturn, 1) := by decide +kernel
theorem dM_isDesign_0 : decode cM_isDesign 0 = .ok (.iload_n 1, 1) := by decide +kernel
theorem dM_isDesign_1 : decode cM_isDesign 1 = .ok (.iconst 0, 1) := by decide +kernel
theorem dM_isDesign_2 : decode cM_isDesign 2 = .ok (.aload_n 0, 1) := by decide +kernel
theorem dM_isDesign_3 : decode cM_isDesign 3 = .ok (.getfield 7, 3) := by decide +kernel
theorem dM_isDesign_6 : decode cM_isDesign 6 = .ok (.iconst 1, 1) := by decide +kernel
theorem dM_isDesign_7 : decode cM_isDesign 7 = .ok (.isub, 1) := by decide +kernel
theorem dM_isDesign_8 : decode cM_isDesign 8 = .ok (.invokestatic 73, 3) := by decide +kernel
theorem dM_isDesign_11 : decode cM_isDesign 11 = .ok (.ireturn, 1) := by decide +kernel
theorem dM_know_0 : decode cM_know 0 = .ok (.aload_n 0, 1) := by decide +kernel
theorem dM_know_1 : decode cM_know 1 = .ok (.getfield 90, 3) := by decide +kernel
theorem dM_know_4 : decode cM_know 4 = .ok (.ifCond .eq 4, 3) := by decide +kernel
theorem dM_know_7 : decode cM_know 7 = .ok (.return_, 1) := by decide +kernel
theorem dM_know_8 : decode cM_know 8 = .ok (.aload_n 0, 1) := by decide +kernel
theorem dM_know_9 : decode cM_know 9 = .ok (.iconst 1, 1) := by decide +kernel
theorem dM_know_10 : decode cM_know 10 = .ok (.putfield 90, 3) := by decide +kernel
theorem dM_know_13 : decode cM_know 13 = .ok (.iconst 0, 1) := by decide +kernel
theorem dM_know_14 : decode cM_know 14 = .ok (.istore_n 1, 1) := by decide +kernel
theorem dM_know_15 : decode cM_know 15 = .ok (.iload_n 1, 1) := by decide +kernel
theorem dM_know_16 : decode cM_know 16 = .ok (.aload_n 0, 1) := by decide +kernel
theorem dM_know_17 : decode cM_know 17 = .ok (.getfield 7, 3) := by decide +kernel
theorem dM_know_20 : decode cM_know 20 = .ok (.if_icmp .ge 71, 3) := by decide +kernel
theorem dM_know_23 : decode cM_know 23 = .ok (.aload_n 0, 1) := by decide +kernel
theorem dM_know_24 : decode cM_know 24 = .ok (.iload_n 1, 1) := by decide +kernel
theorem dM_know_25 : decode cM_know 25 = .ok (.aload_n 0, 1) := by decide +kernel
theorem dM_know_26 : decode cM_know 26 = .ok (.getfield 81, 3) := by decide +kernel
theorem dM_know_29 : decode cM_know 29 = .ok (.invokevirtual 112, 3) := by decide +kernel
theorem dM_know_32 : decode cM_know 32 = .ok (.aload_n 0, 1) := by decide +kernel
theorem dM_know_33 : decode cM_know 33 = .ok (.getfield 60, 3) := by decide +kernel
theorem dM_know_36 : decode cM_know 36 = .ok (.iload_n 1, 1) := by decide +kernel
theorem dM_know_37 : decode cM_know 37 = .ok (.aload_n 0, 1) := by decide +kernel
theorem dM_know_38 : decode cM_know 38 = .ok (.invokevirtual 116, 3) := by decide +kernel
theorem dM_know_41 : decode cM_know 41 = .ok (.ifCond .ne 14, 3) := by decide +kernel
theorem dM_know_44 : decode cM_know 44 = .ok (.aload_n 0, 1) := by decide +kernel
theorem dM_know_45 : decode cM_know 45 = .ok (.invokevirtual 120, 3) := by decide +kernel
theorem dM_know_48 : decode cM_know 48 = .ok (.ifCond .ne 7, 3) := by decide +kernel
theorem dM_know_51 : decode cM_know 51 = .ok (.iconst 1, 1) := by decide +kernel
theorem dM_know_52 : decode cM_know 52 = .ok (.goto 4, 3) := by decide +kernel
theorem dM_know_55 : decode cM_know 55 = .ok (.iconst 0, 1) := by decide +kernel
theorem dM_know_56 : decode cM_know 56 = .ok (.bastore, 1) := by decide +kernel
theorem dM_know_57 : decode cM_know 57 = .ok (.iconst 0, 1) := by decide +kernel
theorem dM_know_58 : decode cM_know 58 = .ok (.istore_n 2, 1) := by decide +kernel
theorem dM_know_59 : decode cM_know 59 = .ok (.iload_n 2, 1) := by decide +kernel
theorem dM_know_60 : decode cM_know 60 = .ok (.iconst 4, 1) := by decide +kernel
theorem dM_know_61 : decode cM_know 61 = .ok (.if_icmp .ge 24, 3) := by decide +kernel
theorem dM_know_64 : decode cM_know 64 = .ok (.aload_n 0, 1) := by decide +kernel
theorem dM_know_65 : decode cM_know 65 = .ok (.getfield 63, 3) := by decide +kernel
theorem dM_know_68 : decode cM_know 68 = .ok (.iconst 4, 1) := by decide +kernel
theorem dM_know_69 : decode cM_know 69 = .ok (.iload_n 1, 1) := by decide +kernel
theorem dM_know_70 : decode cM_know 70 = .ok (.imul, 1) := by decide +kernel
theorem dM_know_71 : decode cM_know 71 = .ok (.iload_n 2, 1) := by decide +kernel
theorem dM_know_72 : decode cM_know 72 = .ok (.iadd, 1) := by decide +kernel
theorem dM_know_73 : decode cM_know 73 = .ok (.aload_n 0, 1) := by decide +kernel
theorem dM_know_74 : decode cM_know 74 = .ok (.iload_n 2, 1) := by decide +kernel
theorem dM_know_75 : decode cM_know 75 = .ok (.invokevirtual 109, 3) := by decide +kernel
theorem dM_know_78 : decode cM_know 78 = .ok (.iastore, 1) := by decide +kernel
theorem dM_know_79 : decode cM_know 79 = .ok (.iinc 2 1, 3) := by decide +kernel
theorem dM_know_82 : decode cM_know 82 = .ok (.goto (-23), 3) := by decide +kernel
theorem dM_know_85 : decode cM_know 85 = .ok (.iinc 1 1, 3) := by decide +kernel
theorem dM_know_88 : decode cM_know 88 = .ok (.goto (-73), 3) := by decide +kernel
theorem dM_know_91 : decode cM_know 91 = .ok (.return_, 1) := by decide +kernel
theorem dM_number_0 : decode cM_number 0 = .ok (.aload_n 0, 1) := by decide +kernel
theorem dM_number_1 : decode cM_number 1 = .ok (.iconst 0, 1) := by decide +kernel
theorem dM_number_2 : decode cM_number 2 = .ok (.putfield 70, 3) := by decide +kernel
theorem dM_number_5 : decode cM_number 5 = .ok (.aload_n 0, 1) := by decide +kernel
theorem dM_number_6 : decode cM_number 6 = .ok (.iload_n 1, 1) := by decide +kernel
theorem dM_number_7 : decode cM_number 7 = .ok (.invokevirtual 123, 3) := by decide +kernel
theorem dM_number_10 : decode cM_number 10 = .ok (.ifCond .eq 12, 3) := by decide +kernel
theorem dM_number_13 : decode cM_number 13 = .ok (.iload_n 2, 1) := by decide +kernel
theorem dM_number_14 : decode cM_number 14 = .ok (.iconst 0, 1) := by decide +kernel
theorem dM_number_15 : decode cM_number 15 = .ok (.iconst 3, 1) := by decide +kernel
theorem dM_number_16 : decode cM_number 16 = .ok (.invokestatic 73, 3) := by decide +kernel
theorem dM_number_19 : decode cM_number 19 = .ok (.ifCond .ne 9, 3) := by decide +kernel
theorem dM_number_22 : decode cM_number 22 = .ok (.aload_n 0, 1) := by decide +kernel
theorem dM_number_23 : decode cM_number 23 = .ok (.iconst 1, 1) := by decide +kernel
theorem dM_number_24 : decode cM_number 24 = .ok (.invokevirtual 77, 3) := by decide +kernel
theorem dM_number_27 : decode cM_number 27 = .ok (.ireturn, 1) := by decide +kernel
theorem dM_number_28 : decode cM_number 28 = .ok (.aload_n 0, 1) := by decide +kernel
theorem dM_number_29 : decode cM_number 29 = .ok (.invokevirtual 127, 3) := by decide +kernel
theorem dM_number_32 : decode cM_number 32 = .ok (.aload_n 0, 1) := by decide +kernel
theorem dM_number_33 : decode cM_number 33 = .ok (.getfield 63, 3) := by decide +kernel
theorem dM_number_36 : decode cM_number 36 = .ok (.iconst 4, 1) := by decide +kernel
theorem dM_number_37 : decode cM_number 37 = .ok (.iload_n 1, 1) := by decide +kernel
theorem dM_number_38 : decode cM_number 38 = .ok (.imul, 1) := by decide +kernel
theorem dM_number_39 : decode cM_number 39 = .ok (.iload_n 2, 1) := by decide +kernel
theorem dM_number_40 : decode cM_number 40 = .ok (.iadd, 1) := by decide +kernel
theorem dM_number_41 : decode cM_number 41 = .ok (.iaload, 1) := by decide +kernel
theorem dM_number_42 : decode cM_number 42 = .ok (.ireturn, 1) := by decide +kernel
theorem dM_value_0 : decode cM_value 0 = .ok (.aload_n 0, 1) := by decide +kernel
theorem dM_value_1 : decode cM_value 1 = .ok (.iconst 0, 1) := by decide +kernel
theorem dM_value_2 : decode cM_value 2 = .ok (.putfield 70, 3) := by decide +kernel
theorem dM_value_5 : decode cM_value 5 = .ok (.aload_n 0, 1) := by decide +kernel
theorem dM_value_6 : decode cM_value 6 = .ok (.iload_n 1, 1) := by decide +kernel
theorem dM_value_7 : decode cM_value 7 = .ok (.invokevirtual 123, 3) := by decide +kernel
theorem dM_value_10 : decode cM_value 10 = .ok (.ifCond .eq 17, 3) := by decide +kernel
theorem dM_value_13 : decode cM_value 13 = .ok (.iload_n 2, 1) := by decide +kernel
theorem dM_value_14 : decode cM_value 14 = .ok (.iconst 0, 1) := by decide +kernel
theorem dM_value_15 : decode cM_value 15 = .ok (.aload_n 0, 1) := by decide +kernel
theorem dM_value_16 : decode cM_value 16 = .ok (.getfield 81, 3) := by decide +kernel
theorem dM_value_19 : decode cM_value 19 = .ok (.iconst 1, 1) := by decide +kernel
theorem dM_value_20 : decode cM_value 20 = .ok (.isub, 1) := by decide +kernel
theorem dM_value_21 : decode cM_value 21 = .ok (.invokestatic 73, 3) := by decide +kernel
theorem dM_value_24 : decode cM_value 24 = .ok (.ifCond .ne 9, 3) := by decide +kernel
theorem dM_value_27 : decode cM_value 27 = .ok (.aload_n 0, 1) := by decide +kernel
theorem dM_value_28 : decode cM_value 28 = .ok (.iconst 1, 1) := by decide +kernel
theorem dM_value_29 : decode cM_value 29 = .ok (.invokevirtual 77, 3) := by decide +kernel
theorem dM_value_32 : decode cM_value 32 = .ok (.ireturn, 1) := by decide +kernel
theorem dM_value_33 : decode cM_value 33 = .ok (.aload_n 0, 1) := by decide +kernel
theorem dM_value_34 : decode cM_value 34 = .ok (.iload_n 1, 1) := by decide +kernel
theorem dM_value_35 : decode cM_value 35 = .ok (.aload_n 0, 1) := by decide +kernel
theorem dM_value_36 : decode cM_value 36 = .ok (.getfield 81, 3) := by decide +kernel
theorem dM_value_39 : decode cM_value 39 = .ok (.invokevirtual 112, 3) := by decide +kernel
theorem dM_value_42 : decode cM_value 42 = .ok (.aload_n 0, 1) := by decide +kernel
theorem dM_value_43 : decode cM_value 43 = .ok (.getfield 54, 3) := by decide +kernel
theorem dM_value_46 : decode cM_value 46 = .ok (.iload_n 2, 1) := by decide +kernel
theorem dM_value_47 : decode cM_value 47 = .ok (.iaload, 1) := by decide +kernel
theorem dM_value_48 : decode cM_value 48 = .ok (.ireturn, 1) := by decide +kernel
theorem dM_legal_0 : decode cM_legal 0 = .ok (.aload_n 0, 1) := by decide +kernel
theorem dM_legal_1 : decode cM_legal 1 = .ok (.aload_n 0, 1) := by decide +kernel
theorem dM_legal_2 : decode cM_legal 2 = .ok (.iload_n 1, 1) := by decide +kernel
theorem dM_legal_3 : decode cM_legal 3 = .ok (.invokevirtual 123, 3) := by decide +kernel
theorem dM_legal_6 : decode cM_legal 6 = .ok (.ifCond .eq 7, 3) := by decide +kernel
theorem dM_legal_9 : decode cM_legal 9 = .ok (.iconst 0, 1) := by decide +kernel
theorem dM_legal_10 : decode cM_legal 10 = .ok (.goto 4, 3) := by decide +kernel
theorem dM_legal_13 : decode cM_legal 13 = .ok (.iconst 1, 1) := by decide +kernel
theorem dM_legal_14 : decode cM_legal 14 = .ok (.putfield 70, 3) := by decide +kernel
theorem dM_legal_17 : decode cM_legal 17 = .ok (.aload_n 0, 1) := by decide +kernel
theorem dM_legal_18 : decode cM_legal 18 = .ok (.getfield 70, 3) := by decide +kernel
theorem dM_legal_21 : decode cM_legal 21 = .ok (.ifCond .le 5, 3) := by decide +kernel
theorem dM_legal_24 : decode cM_legal 24 = .ok (.iconst 0, 1) := by decide +kernel
theorem dM_legal_25 : decode cM_legal 25 = .ok (.ireturn, 1) := by decide +kernel
theorem dM_legal_26 : decode cM_legal 26 = .ok (.aload_n 0, 1) := by decide +kernel
theorem dM_legal_27 : decode cM_legal 27 = .ok (.invokevirtual 127, 3) := by decide +kernel
theorem dM_legal_30 : decode cM_legal 30 = .ok (.aload_n 0, 1) := by decide +kernel
theorem dM_legal_31 : decode cM_legal 31 = .ok (.getfield 60, 3) := by decide +kernel
theorem dM_legal_34 : decode cM_legal 34 = .ok (.iload_n 1, 1) := by decide +kernel
theorem dM_legal_35 : decode cM_legal 35 = .ok (.baload, 1) := by decide +kernel
theorem dM_legal_36 : decode cM_legal 36 = .ok (.ireturn, 1) := by decide +kernel
theorem dM_isBeaten_0 : decode cM_isBeaten 0 = .ok (.iconst 0, 1) := by decide +kernel
theorem dM_isBeaten_1 : decode cM_isBeaten 1 = .ok (.istore_n 3, 1) := by decide +kernel
theorem dM_isBeaten_2 : decode cM_isBeaten 2 = .ok (.iconst 0, 1) := by decide +kernel
theorem dM_isBeaten_3 : decode cM_isBeaten 3 = .ok (.istore 4, 2) := by decide +kernel
theorem dM_isBeaten_5 : decode cM_isBeaten 5 = .ok (.iconst 0, 1) := by decide +kernel
theorem dM_isBeaten_6 : decode cM_isBeaten 6 = .ok (.istore 5, 2) := by decide +kernel
theorem dM_isBeaten_8 : decode cM_isBeaten 8 = .ok (.iload 5, 2) := by decide +kernel
theorem dM_isBeaten_10 : decode cM_isBeaten 10 = .ok (.iconst 4, 1) := by decide +kernel
theorem dM_isBeaten_11 : decode cM_isBeaten 11 = .ok (.if_icmp .ge 81, 3) := by decide +kernel
theorem dM_isBeaten_14 : decode cM_isBeaten 14 = .ok (.iload_n 3, 1) := by decide +kernel
theorem dM_isBeaten_15 : decode cM_isBeaten 15 = .ok (.ifCond .ne 28, 3) := by decide +kernel
theorem dM_isBeaten_18 : decode cM_isBeaten 18 = .ok (.aload_n 0, 1) := by decide +kernel
theorem dM_isBeaten_19 : decode cM_isBeaten 19 = .ok (.getfield 63, 3) := by decide +kernel
theorem dM_isBeaten_22 : decode cM_isBeaten 22 = .ok (.iconst 4, 1) := by decide +kernel
theorem dM_isBeaten_23 : decode cM_isBeaten 23 = .ok (.iload_n 2, 1) := by decide +kernel
theorem dM_isBeaten_24 : decode cM_isBeaten 24 = .ok (.imul, 1) := by decide +kernel
theorem dM_isBeaten_25 : decode cM_isBeaten 25 = .ok (.iload 5, 2) := by decide +kernel
theorem dM_isBeaten_27 : decode cM_isBeaten 27 = .ok (.iadd, 1) := by decide +kernel
theorem dM_isBeaten_28 : decode cM_isBeaten 28 = .ok (.iaload, 1) := by decide +kernel
theorem dM_isBeaten_29 : decode cM_isBeaten 29 = .ok (.aload_n 0, 1) := by decide +kernel
theorem dM_isBeaten_30 : decode cM_isBeaten 30 = .ok (.getfield 63, 3) := by decide +kernel
theorem dM_isBeaten_33 : decode cM_isBeaten 33 = .ok (.iconst 4, 1) := by decide +kernel
theorem dM_isBeaten_34 : decode cM_isBeaten 34 = .ok (.iload_n 1, 1) := by decide +kernel
theorem dM_isBeaten_35 : decode cM_isBeaten 35 = .ok (.imul, 1) := by decide +kernel
theorem dM_isBeaten_36 : decode cM_isBeaten 36 = .ok (.iload 5, 2) := by decide +kernel
theorem dM_isBeaten_38 : decode cM_isBeaten 38 = .ok (.iadd, 1) := by decide +kernel
theorem dM_isBeaten_39 : decode cM_isBeaten 39 = .ok (.iaload, 1) := by decide +kernel
theorem dM_isBeaten_40 : decode cM_isBeaten 40 = .ok (.if_icmp .ge 7, 3) := by decide +kernel
theorem dM_isBeaten_43 : decode cM_isBeaten 43 = .ok (.iconst 1, 1) := by decide +kernel
theorem dM_isBeaten_44 : decode cM_isBeaten 44 = .ok (.goto 4, 3) := by decide +kernel
theorem dM_isBeaten_47 : decode cM_isBeaten 47 = .ok (.iconst 0, 1) := by decide +kernel
theorem dM_isBeaten_48 : decode cM_isBeaten 48 = .ok (.istore_n 3, 1) := by decide +kernel
theorem dM_isBeaten_49 : decode cM_isBeaten 49 = .ok (.iload 4, 2) := by decide +kernel
theorem dM_isBeaten_51 : decode cM_isBeaten 51 = .ok (.ifCond .ne 28, 3) := by decide +kernel
theorem dM_isBeaten_54 : decode cM_isBeaten 54 = .ok (.aload_n 0, 1) := by decide +kernel
theorem dM_isBeaten_55 : decode cM_isBeaten 55 = .ok (.getfield 63, 3) := by decide +kernel
theorem dM_isBeaten_58 : decode cM_isBeaten 58 = .ok (.iconst 4, 1) := by decide +kernel
theorem dM_isBeaten_59 : decode cM_isBeaten 59 = .ok (.iload_n 2, 1) := by decide +kernel
theorem dM_isBeaten_60 : decode cM_isBeaten 60 = .ok (.imul, 1) := by decide +kernel
theorem dM_isBeaten_61 : decode cM_isBeaten 61 = .ok (.iload 5, 2) := by decide +kernel
theorem dM_isBeaten_63 : decode cM_isBeaten 63 = .ok (.iadd, 1) := by decide +kernel
theorem dM_isBeaten_64 : decode cM_isBeaten 64 = .ok (.iaload, 1) := by decide +kernel
theorem dM_isBeaten_65 : decode cM_isBeaten 65 = .ok (.aload_n 0, 1) := by decide +kernel
theorem dM_isBeaten_66 : decode cM_isBeaten 66 = .ok (.getfield 63, 3) := by decide +kernel
theorem dM_isBeaten_69 : decode cM_isBeaten 69 = .ok (.iconst 4, 1) := by decide +kernel
theorem dM_isBeaten_70 : decode cM_isBeaten 70 = .ok (.iload_n 1, 1) := by decide +kernel
theorem dM_isBeaten_71 : decode cM_isBeaten 71 = .ok (.imul, 1) := by decide +kernel
theorem dM_isBeaten_72 : decode cM_isBeaten 72 = .ok (.iload 5, 2) := by decide +kernel
theorem dM_isBeaten_74 : decode cM_isBeaten 74 = .ok (.iadd, 1) := by decide +kernel
theorem dM_isBeaten_75 : decode cM_isBeaten 75 = .ok (.iaload, 1) := by decide +kernel
theorem dM_isBeaten_76 : decode cM_isBeaten 76 = .ok (.if_icmp .le 7, 3) := by decide +kernel
theorem dM_isBeaten_79 : decode cM_isBeaten 79 = .ok (.iconst 1, 1) := by decide +kernel
theorem dM_isBeaten_80 : decode cM_isBeaten 80 = .ok (.goto 4, 3) := by decide +kernel
theorem dM_isBeaten_83 : decode cM_isBeaten 83 = .ok (.iconst 0, 1) := by decide +kernel
theorem dM_isBeaten_84 : decode cM_isBeaten 84 = .ok (.istore 4, 2) := by decide +kernel
theorem dM_isBeaten_86 : decode cM_isBeaten 86 = .ok (.iinc 5 1, 3) := by decide +kernel
theorem dM_isBeaten_89 : decode cM_isBeaten 89 = .ok (.goto (-81), 3) := by decide +kernel
theorem dM_isBeaten_92 : decode cM_isBeaten 92 = .ok (.iload_n 3, 1) := by decide +kernel
theorem dM_isBeaten_93 : decode cM_isBeaten 93 = .ok (.ifCond .eq 12, 3) := by decide +kernel
theorem dM_isBeaten_96 : decode cM_isBeaten 96 = .ok (.iload 4, 2) := by decide +kernel
theorem dM_isBeaten_98 : decode cM_isBeaten 98 = .ok (.ifCond .ne 7, 3) := by decide +kernel
theorem dM_isBeaten_101 : decode cM_isBeaten 101 = .ok (.iconst 1, 1) := by decide +kernel
theorem dM_isBeaten_102 : decode cM_isBeaten 102 = .ok (.goto 4, 3) := by decide +kernel
theorem dM_isBeaten_105 : decode cM_isBeaten 105 = .ok (.iconst 0, 1) := by decide +kernel
theorem dM_isBeaten_106 : decode cM_isBeaten 106 = .ok (.ireturn, 1) := by decide +kernel
theorem dM_beats_0 : decode cM_beats 0 = .ok (.aload_n 0, 1) := by decide +kernel
theorem dM_beats_1 : decode cM_beats 1 = .ok (.aload_n 0, 1) := by decide +kernel
theorem dM_beats_2 : decode cM_beats 2 = .ok (.iload_n 1, 1) := by decide +kernel
theorem dM_beats_3 : decode cM_beats 3 = .ok (.invokevirtual 123, 3) := by decide +kernel
theorem dM_beats_6 : decode cM_beats 6 = .ok (.ifCond .eq 15, 3) := by decide +kernel
theorem dM_beats_9 : decode cM_beats 9 = .ok (.aload_n 0, 1) := by decide +kernel
theorem dM_beats_10 : decode cM_beats 10 = .ok (.iload_n 2, 1) := by decide +kernel
theorem dM_beats_11 : decode cM_beats 11 = .ok (.invokevirtual 123, 3) := by decide +kernel
theorem dM_beats_14 : decode cM_beats 14 = .ok (.ifCond .eq 7, 3) := by decide +kernel
theorem dM_beats_17 : decode cM_beats 17 = .ok (.iconst 0, 1) := by decide +kernel
theorem dM_beats_18 : decode cM_beats 18 = .ok (.goto 4, 3) := by decide +kernel
theorem dM_beats_21 : decode cM_beats 21 = .ok (.iconst 1, 1) := by decide +kernel
theorem dM_beats_22 : decode cM_beats 22 = .ok (.putfield 70, 3) := by decide +kernel
theorem dM_beats_25 : decode cM_beats 25 = .ok (.aload_n 0, 1) := by decide +kernel
theorem dM_beats_26 : decode cM_beats 26 = .ok (.getfield 70, 3) := by decide +kernel
theorem dM_beats_29 : decode cM_beats 29 = .ok (.ifCond .le 5, 3) := by decide +kernel
theorem dM_beats_32 : decode cM_beats 32 = .ok (.iconst 0, 1) := by decide +kernel
theorem dM_beats_33 : decode cM_beats 33 = .ok (.ireturn, 1) := by decide +kernel
theorem dM_beats_34 : decode cM_beats 34 = .ok (.aload_n 0, 1) := by decide +kernel
theorem dM_beats_35 : decode cM_beats 35 = .ok (.invokevirtual 127, 3) := by decide +kernel
theorem dM_beats_38 : decode cM_beats 38 = .ok (.aload_n 0, 1) := by decide +kernel
theorem dM_beats_39 : decode cM_beats 39 = .ok (.aload_n 0, 1) := by decide +kernel
