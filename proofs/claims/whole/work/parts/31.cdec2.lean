theorem dBo_addRule_67 : decode cBo_addRule 67 = .ok (.iload 6, 2) := by decide +kernel
theorem dBo_addRule_69 : decode cBo_addRule 69 = .ok (.iconst 1, 1) := by decide +kernel
theorem dBo_addRule_70 : decode cBo_addRule 70 = .ok (.bastore, 1) := by decide +kernel
theorem dBo_addRule_71 : decode cBo_addRule 71 = .ok (.iinc 6 1, 3) := by decide +kernel
theorem dBo_addRule_74 : decode cBo_addRule 74 = .ok (.goto (-37), 3) := by decide +kernel
theorem dBo_addRule_77 : decode cBo_addRule 77 = .ok (.return_, 1) := by decide +kernel
theorem dBo_limitsOn_0 : decode cBo_limitsOn 0 = .ok (.iconst 0, 1) := by decide +kernel
theorem dBo_limitsOn_1 : decode cBo_limitsOn 1 = .ok (.istore_n 1, 1) := by decide +kernel
theorem dBo_limitsOn_2 : decode cBo_limitsOn 2 = .ok (.iconst 0, 1) := by decide +kernel
theorem dBo_limitsOn_3 : decode cBo_limitsOn 3 = .ok (.istore_n 2, 1) := by decide +kernel
theorem dBo_limitsOn_4 : decode cBo_limitsOn 4 = .ok (.iload_n 2, 1) := by decide +kernel
theorem dBo_limitsOn_5 : decode cBo_limitsOn 5 = .ok (.iconst 4, 1) := by decide +kernel
theorem dBo_limitsOn_6 : decode cBo_limitsOn 6 = .ok (.if_icmp .ge 21, 3) := by decide +kernel
theorem dBo_limitsOn_9 : decode cBo_limitsOn 9 = .ok (.aload_n 0, 1) := by decide +kernel
theorem dBo_limitsOn_10 : decode cBo_limitsOn 10 = .ok (.getfield 25, 3) := by decide +kernel
theorem dBo_limitsOn_13 : decode cBo_limitsOn 13 = .ok (.iload_n 2, 1) := by decide +kernel
theorem dBo_limitsOn_14 : decode cBo_limitsOn 14 = .ok (.baload, 1) := by decide +kernel
theorem dBo_limitsOn_15 : decode cBo_limitsOn 15 = .ok (.ifCond .eq 6, 3) := by decide +kernel
theorem dBo_limitsOn_18 : decode cBo_limitsOn 18 = .ok (.iinc 1 1, 3) := by decide +kernel
theorem dBo_limitsOn_21 : decode cBo_limitsOn 21 = .ok (.iinc 2 1, 3) := by decide +kernel
theorem dBo_limitsOn_24 : decode cBo_limitsOn 24 = .ok (.goto (-20), 3) := by decide +kernel
theorem dBo_limitsOn_27 : decode cBo_limitsOn 27 = .ok (.iload_n 1, 1) := by decide +kernel
theorem dBo_limitsOn_28 : decode cBo_limitsOn 28 = .ok (.ireturn, 1) := by decide +kernel
theorem dBo_sumOf_0 : decode cBo_sumOf 0 = .ok (.aload_n 0, 1) := by decide +kernel
theorem dBo_sumOf_1 : decode cBo_sumOf 1 = .ok (.getfield 32, 3) := by decide +kernel
theorem dBo_sumOf_4 : decode cBo_sumOf 4 = .ok (.iload_n 1, 1) := by decide +kernel
theorem dBo_sumOf_5 : decode cBo_sumOf 5 = .ok (.iconst 4, 1) := by decide +kernel
theorem dBo_sumOf_6 : decode cBo_sumOf 6 = .ok (.imul, 1) := by decide +kernel
theorem dBo_sumOf_7 : decode cBo_sumOf 7 = .ok (.iload_n 2, 1) := by decide +kernel
theorem dBo_sumOf_8 : decode cBo_sumOf 8 = .ok (.iadd, 1) := by decide +kernel
theorem dBo_sumOf_9 : decode cBo_sumOf 9 = .ok (.iaload, 1) := by decide +kernel
theorem dBo_sumOf_10 : decode cBo_sumOf 10 = .ok (.ireturn, 1) := by decide +kernel
theorem dBo_costOf_0 : decode cBo_costOf 0 = .ok (.lconst 0, 1) := by decide +kernel
theorem dBo_costOf_1 : decode cBo_costOf 1 = .ok (.lstore_n 2, 1) := by decide +kernel
theorem dBo_costOf_2 : decode cBo_costOf 2 = .ok (.iconst 0, 1) := by decide +kernel
theorem dBo_costOf_3 : decode cBo_costOf 3 = .ok (.istore 4, 2) := by decide +kernel
theorem dBo_costOf_5 : decode cBo_costOf 5 = .ok (.iload 4, 2) := by decide +kernel
theorem dBo_costOf_7 : decode cBo_costOf 7 = .ok (.iconst 4, 1) := by decide +kernel
theorem dBo_costOf_8 : decode cBo_costOf 8 = .ok (.if_icmp .ge 20, 3) := by decide +kernel
theorem dBo_costOf_11 : decode cBo_costOf 11 = .ok (.lload_n 2, 1) := by decide +kernel
theorem dBo_costOf_12 : decode cBo_costOf 12 = .ok (.aload_n 0, 1) := by decide +kernel
theorem dBo_costOf_13 : decode cBo_costOf 13 = .ok (.iload_n 1, 1) := by decide +kernel
theorem dBo_costOf_14 : decode cBo_costOf 14 = .ok (.iload 4, 2) := by decide +kernel
theorem dBo_costOf_16 : decode cBo_costOf 16 = .ok (.invokevirtual 68, 3) := by decide +kernel
theorem dBo_costOf_19 : decode cBo_costOf 19 = .ok (.i2l, 1) := by decide +kernel
theorem dBo_costOf_20 : decode cBo_costOf 20 = .ok (.ladd, 1) := by decide +kernel
theorem dBo_costOf_21 : decode cBo_costOf 21 = .ok (.lstore_n 2, 1) := by decide +kernel
theorem dBo_costOf_22 : decode cBo_costOf 22 = .ok (.iinc 4 1, 3) := by decide +kernel
theorem dBo_costOf_25 : decode cBo_costOf 25 = .ok (.goto (-20), 3) := by decide +kernel
theorem dBo_costOf_28 : decode cBo_costOf 28 = .ok (.lload_n 2, 1) := by decide +kernel
theorem dBo_costOf_29 : decode cBo_costOf 29 = .ok (.lreturn, 1) := by decide +kernel
theorem dBo_allows_0 : decode cBo_allows 0 = .ok (.aload_n 0, 1) := by decide +kernel
theorem dBo_allows_1 : decode cBo_allows 1 = .ok (.getfield 35, 3) := by decide +kernel
theorem dBo_allows_4 : decode cBo_allows 4 = .ok (.iload_n 1, 1) := by decide +kernel
theorem dBo_allows_5 : decode cBo_allows 5 = .ok (.baload, 1) := by decide +kernel
theorem dBo_allows_6 : decode cBo_allows 6 = .ok (.ifCond .eq 5, 3) := by decide +kernel
theorem dBo_allows_9 : decode cBo_allows 9 = .ok (.iconst 0, 1) := by decide +kernel
theorem dBo_allows_10 : decode cBo_allows 10 = .ok (.ireturn, 1) := by decide +kernel
theorem dBo_allows_11 : decode cBo_allows 11 = .ok (.iconst 0, 1) := by decide +kernel
theorem dBo_allows_12 : decode cBo_allows 12 = .ok (.istore_n 2, 1) := by decide +kernel
theorem dBo_allows_13 : decode cBo_allows 13 = .ok (.iload_n 2, 1) := by decide +kernel
theorem dBo_allows_14 : decode cBo_allows 14 = .ok (.iconst 4, 1) := by decide +kernel
theorem dBo_allows_15 : decode cBo_allows 15 = .ok (.if_icmp .ge 35, 3) := by decide +kernel
theorem dBo_allows_18 : decode cBo_allows 18 = .ok (.aload_n 0, 1) := by decide +kernel
theorem dBo_allows_19 : decode cBo_allows 19 = .ok (.getfield 25, 3) := by decide +kernel
theorem dBo_allows_22 : decode cBo_allows 22 = .ok (.iload_n 2, 1) := by decide +kernel
theorem dBo_allows_23 : decode cBo_allows 23 = .ok (.baload, 1) := by decide +kernel
theorem dBo_allows_24 : decode cBo_allows 24 = .ok (.ifCond .eq 20, 3) := by decide +kernel
theorem dBo_allows_27 : decode cBo_allows 27 = .ok (.aload_n 0, 1) := by decide +kernel
theorem dBo_allows_28 : decode cBo_allows 28 = .ok (.iload_n 1, 1) := by decide +kernel
theorem dBo_allows_29 : decode cBo_allows 29 = .ok (.iload_n 2, 1) := by decide +kernel
theorem dBo_allows_30 : decode cBo_allows 30 = .ok (.invokevirtual 68, 3) := by decide +kernel
theorem dBo_allows_33 : decode cBo_allows 33 = .ok (.aload_n 0, 1) := by decide +kernel
theorem dBo_allows_34 : decode cBo_allows 34 = .ok (.getfield 29, 3) := by decide +kernel
theorem dBo_allows_37 : decode cBo_allows 37 = .ok (.iload_n 2, 1) := by decide +kernel
theorem dBo_allows_38 : decode cBo_allows 38 = .ok (.iaload, 1) := by decide +kernel
theorem dBo_allows_39 : decode cBo_allows 39 = .ok (.if_icmp .le 5, 3) := by decide +kernel
theorem dBo_allows_42 : decode cBo_allows 42 = .ok (.iconst 0, 1) := by decide +kernel
theorem dBo_allows_43 : decode cBo_allows 43 = .ok (.ireturn, 1) := by decide +kernel
theorem dBo_allows_44 : decode cBo_allows 44 = .ok (.iinc 2 1, 3) := by decide +kernel
theorem dBo_allows_47 : decode cBo_allows 47 = .ok (.goto (-34), 3) := by decide +kernel
theorem dBo_allows_50 : decode cBo_allows 50 = .ok (.iconst 1, 1) := by decide +kernel
theorem dBo_allows_51 : decode cBo_allows 51 = .ok (.ireturn, 1) := by decide +kernel
theorem dBo_isAtMost_0 : decode cBo_isAtMost 0 = .ok (.iload_n 1, 1) := by decide +kernel
theorem dBo_isAtMost_1 : decode cBo_isAtMost 1 = .ok (.iconst 4, 1) := by decide +kernel
theorem dBo_isAtMost_2 : decode cBo_isAtMost 2 = .ok (.imul, 1) := by decide +kernel
theorem dBo_isAtMost_3 : decode cBo_isAtMost 3 = .ok (.istore_n 3, 1) := by decide +kernel
theorem dBo_isAtMost_4 : decode cBo_isAtMost 4 = .ok (.iload_n 2, 1) := by decide +kernel
theorem dBo_isAtMost_5 : decode cBo_isAtMost 5 = .ok (.iconst 4, 1) := by decide +kernel
theorem dBo_isAtMost_6 : decode cBo_isAtMost 6 = .ok (.imul, 1) := by decide +kernel
theorem dBo_isAtMost_7 : decode cBo_isAtMost 7 = .ok (.istore 4, 2) := by decide +kernel
theorem dBo_isAtMost_9 : decode cBo_isAtMost 9 = .ok (.iconst 0, 1) := by decide +kernel
theorem dBo_isAtMost_10 : decode cBo_isAtMost 10 = .ok (.istore 5, 2) := by decide +kernel
theorem dBo_isAtMost_12 : decode cBo_isAtMost 12 = .ok (.iload 5, 2) := by decide +kernel
theorem dBo_isAtMost_14 : decode cBo_isAtMost 14 = .ok (.iconst 4, 1) := by decide +kernel
theorem dBo_isAtMost_15 : decode cBo_isAtMost 15 = .ok (.if_icmp .ge 33, 3) := by decide +kernel
theorem dBo_isAtMost_18 : decode cBo_isAtMost 18 = .ok (.aload_n 0, 1) := by decide +kernel
theorem dBo_isAtMost_19 : decode cBo_isAtMost 19 = .ok (.getfield 32, 3) := by decide +kernel
theorem dBo_isAtMost_22 : decode cBo_isAtMost 22 = .ok (.iload_n 3, 1) := by decide +kernel
theorem dBo_isAtMost_23 : decode cBo_isAtMost 23 = .ok (.iload 5, 2) := by decide +kernel
theorem dBo_isAtMost_25 : decode cBo_isAtMost 25 = .ok (.iadd, 1) := by decide +kernel
theorem dBo_isAtMost_26 : decode cBo_isAtMost 26 = .ok (.iaload, 1) := by decide +kernel
theorem dBo_isAtMost_27 : decode cBo_isAtMost 27 = .ok (.aload_n 0, 1) := by decide +kernel
theorem dBo_isAtMost_28 : decode cBo_isAtMost 28 = .ok (.getfield 32, 3) := by decide +kernel
theorem dBo_isAtMost_31 : decode cBo_isAtMost 31 = .ok (.iload 4, 2) := by decide +kernel
theorem dBo_isAtMost_33 : decode cBo_isAtMost 33 = .ok (.iload 5, 2) := by decide +kernel
theorem dBo_isAtMost_35 : decode cBo_isAtMost 35 = .ok (.iadd, 1) := by decide +kernel
theorem dBo_isAtMost_36 : decode cBo_isAtMost 36 = .ok (.iaload, 1) := by decide +kernel
theorem dBo_isAtMost_37 : decode cBo_isAtMost 37 = .ok (.if_icmp .le 5, 3) := by decide +kernel
theorem dBo_isAtMost_40 : decode cBo_isAtMost 40 = .ok (.iconst 0, 1) := by decide +kernel
theorem dBo_isAtMost_41 : decode cBo_isAtMost 41 = .ok (.ireturn, 1) := by decide +kernel
theorem dBo_isAtMost_42 : decode cBo_isAtMost 42 = .ok (.iinc 5 1, 3) := by decide +kernel
theorem dBo_isAtMost_45 : decode cBo_isAtMost 45 = .ok (.goto (-33), 3) := by decide +kernel
theorem dBo_isAtMost_48 : decode cBo_isAtMost 48 = .ok (.iconst 1, 1) := by decide +kernel
theorem dBo_isAtMost_49 : decode cBo_isAtMost 49 = .ok (.ireturn, 1) := by decide +kernel
theorem dBo_boundOf_0 : decode cBo_boundOf 0 = .ok (.iconst 0, 1) := by decide +kernel
theorem dBo_boundOf_1 : decode cBo_boundOf 1 = .ok (.istore 4, 2) := by decide +kernel
theorem dBo_boundOf_3 : decode cBo_boundOf 3 = .ok (.iload_n 1, 1) := by decide +kernel
theorem dBo_boundOf_4 : decode cBo_boundOf 4 = .ok (.bipush 100, 2) := by decide +kernel
theorem dBo_boundOf_6 : decode cBo_boundOf 6 = .ok (.imul, 1) := by decide +kernel
theorem dBo_boundOf_7 : decode cBo_boundOf 7 = .ok (.istore 5, 2) := by decide +kernel
theorem dBo_boundOf_9 : decode cBo_boundOf 9 = .ok (.iload 5, 2) := by decide +kernel
theorem dBo_boundOf_11 : decode cBo_boundOf 11 = .ok (.aload_n 0, 1) := by decide +kernel
theorem dBo_boundOf_12 : decode cBo_boundOf 12 = .ok (.getfield 9, 3) := by decide +kernel
theorem dBo_boundOf_15 : decode cBo_boundOf 15 = .ok (.iload_n 1, 1) := by decide +kernel
theorem dBo_boundOf_16 : decode cBo_boundOf 16 = .ok (.iaload, 1) := by decide +kernel
theorem dBo_boundOf_17 : decode cBo_boundOf 17 = .ok (.iadd, 1) := by decide +kernel
theorem dBo_boundOf_18 : decode cBo_boundOf 18 = .ok (.istore 6, 2) := by decide +kernel
theorem dBo_boundOf_20 : decode cBo_boundOf 20 = .ok (.iload 5, 2) := by decide +kernel
theorem dBo_boundOf_22 : decode cBo_boundOf 22 = .ok (.istore 7, 2) := by decide +kernel
theorem dBo_boundOf_24 : decode cBo_boundOf 24 = .ok (.iload 7, 2) := by decide +kernel
theorem dBo_boundOf_26 : decode cBo_boundOf 26 = .ok (.iload 6, 2) := by decide +kernel
theorem dBo_boundOf_28 : decode cBo_boundOf 28 = .ok (.if_icmp .ge 58, 3) := by decide +kernel
theorem dBo_boundOf_31 : decode cBo_boundOf 31 = .ok (.aload_n 0, 1) := by decide +kernel
theorem dBo_boundOf_32 : decode cBo_boundOf 32 = .ok (.getfield 47, 3) := by decide +kernel
theorem dBo_boundOf_35 : decode cBo_boundOf 35 = .ok (.iload 7, 2) := by decide +kernel
theorem dBo_boundOf_37 : decode cBo_boundOf 37 = .ok (.aload_n 2, 1) := by decide +kernel
theorem dBo_boundOf_38 : decode cBo_boundOf 38 = .ok (.iload_n 3, 1) := by decide +kernel
theorem dBo_boundOf_39 : decode cBo_boundOf 39 = .ok (.invokevirtual 72, 3) := by decide +kernel
theorem dBo_boundOf_42 : decode cBo_boundOf 42 = .ok (.ifCond .eq 38, 3) := by decide +kernel
theorem dBo_boundOf_45 : decode cBo_boundOf 45 = .ok (.aload_n 0, 1) := by decide +kernel
theorem dBo_boundOf_46 : decode cBo_boundOf 46 = .ok (.getfield 15, 3) := by decide +kernel
theorem dBo_boundOf_49 : decode cBo_boundOf 49 = .ok (.iload 7, 2) := by decide +kernel
theorem dBo_boundOf_51 : decode cBo_boundOf 51 = .ok (.iaload, 1) := by decide +kernel
theorem dBo_boundOf_52 : decode cBo_boundOf 52 = .ok (.ifCond .lt 16, 3) := by decide +kernel
theorem dBo_boundOf_55 : decode cBo_boundOf 55 = .ok (.aload_n 0, 1) := by decide +kernel
theorem dBo_boundOf_56 : decode cBo_boundOf 56 = .ok (.getfield 47, 3) := by decide +kernel
theorem dBo_boundOf_59 : decode cBo_boundOf 59 = .ok (.iload 7, 2) := by decide +kernel
theorem dBo_boundOf_61 : decode cBo_boundOf 61 = .ok (.iload_n 3, 1) := by decide +kernel
theorem dBo_boundOf_62 : decode cBo_boundOf 62 = .ok (.invokevirtual 76, 3) := by decide +kernel
theorem dBo_boundOf_65 : decode cBo_boundOf 65 = .ok (.ifCond .eq 15, 3) := by decide +kernel
theorem dBo_boundOf_68 : decode cBo_boundOf 68 = .ok (.iload 4, 2) := by decide +kernel
theorem dBo_boundOf_70 : decode cBo_boundOf 70 = .ok (.aload_n 0, 1) := by decide +kernel
theorem dBo_boundOf_71 : decode cBo_boundOf 71 = .ok (.getfield 15, 3) := by decide +kernel
theorem dBo_boundOf_74 : decode cBo_boundOf 74 = .ok (.iload 7, 2) := by decide +kernel
theorem dBo_boundOf_76 : decode cBo_boundOf 76 = .ok (.iaload, 1) := by decide +kernel
theorem dBo_boundOf_77 : decode cBo_boundOf 77 = .ok (.iadd, 1) := by decide +kernel
theorem dBo_boundOf_78 : decode cBo_boundOf 78 = .ok (.istore 4, 2) := by decide +kernel
theorem dBo_boundOf_80 : decode cBo_boundOf 80 = .ok (.iinc 7 1, 3) := by decide +kernel
theorem dBo_boundOf_83 : decode cBo_boundOf 83 = .ok (.goto (-59), 3) := by decide +kernel
theorem dBo_boundOf_86 : decode cBo_boundOf 86 = .ok (.iload 4, 2) := by decide +kernel
theorem dBo_boundOf_88 : decode cBo_boundOf 88 = .ok (.ireturn, 1) := by decide +kernel
theorem dBo_barsRow_0 : decode cBo_barsRow 0 = .ok (.sipush 400, 3) := by decide +kernel
theorem dBo_barsRow_3 : decode cBo_barsRow 3 = .ok (.aload_n 0, 1) := by decide +kernel
theorem dBo_barsRow_4 : decode cBo_barsRow 4 = .ok (.getfield 22, 3) := by decide +kernel
theorem dBo_barsRow_7 : decode cBo_barsRow 7 = .ok (.iadd, 1) := by decide +kernel
theorem dBo_barsRow_8 : decode cBo_barsRow 8 = .ok (.istore_n 3, 1) := by decide +kernel
theorem dBo_barsRow_9 : decode cBo_barsRow 9 = .ok (.sipush 400, 3) := by decide +kernel
theorem dBo_barsRow_12 : decode cBo_barsRow 12 = .ok (.istore 4, 2) := by decide +kernel
theorem dBo_barsRow_14 : decode cBo_barsRow 14 = .ok (.iload 4, 2) := by decide +kernel
theorem dBo_barsRow_16 : decode cBo_barsRow 16 = .ok (.iload_n 3, 1) := by decide +kernel
theorem dBo_barsRow_17 : decode cBo_barsRow 17 = .ok (.if_icmp .ge 38, 3) := by decide +kernel
theorem dBo_barsRow_20 : decode cBo_barsRow 20 = .ok (.aload_n 0, 1) := by decide +kernel
theorem dBo_barsRow_21 : decode cBo_barsRow 21 = .ok (.getfield 47, 3) := by decide +kernel
theorem dBo_barsRow_24 : decode cBo_barsRow 24 = .ok (.iload 4, 2) := by decide +kernel
theorem dBo_barsRow_26 : decode cBo_barsRow 26 = .ok (.iload_n 2, 1) := by decide +kernel
theorem dBo_barsRow_27 : decode cBo_barsRow 27 = .ok (.invokevirtual 76, 3) := by decide +kernel
theorem dBo_barsRow_30 : decode cBo_barsRow 30 = .ok (.ifCond .eq 19, 3) := by decide +kernel
theorem dBo_barsRow_33 : decode cBo_barsRow 33 = .ok (.aload_n 0, 1) := by decide +kernel
theorem dBo_barsRow_34 : decode cBo_barsRow 34 = .ok (.getfield 47, 3) := by decide +kernel
theorem dBo_barsRow_37 : decode cBo_barsRow 37 = .ok (.iload 4, 2) := by decide +kernel
theorem dBo_barsRow_39 : decode cBo_barsRow 39 = .ok (.aload_n 1, 1) := by decide +kernel
theorem dBo_barsRow_40 : decode cBo_barsRow 40 = .ok (.iload_n 2, 1) := by decide +kernel
theorem dBo_barsRow_41 : decode cBo_barsRow 41 = .ok (.invokevirtual 72, 3) := by decide +kernel
theorem dBo_barsRow_44 : decode cBo_barsRow 44 = .ok (.ifCond .eq 5, 3) := by decide +kernel
theorem dBo_barsRow_47 : decode cBo_barsRow 47 = .ok (.iconst 1, 1) := by decide +kernel
theorem dBo_barsRow_48 : decode cBo_barsRow 48 = .ok (.ireturn, 1) := by decide +kernel
theorem dBo_barsRow_49 : decode cBo_barsRow 49 = .ok (.iinc 4 1, 3) := by decide +kernel
theorem dBo_barsRow_52 : decode cBo_barsRow 52 = .ok (.goto (-38), 3) := by decide +kernel
theorem dBo_barsRow_55 : decode cBo_barsRow 55 = .ok (.iconst 0, 1) := by decide +kernel
theorem dBo_barsRow_56 : decode cBo_barsRow 56 = .ok (.ireturn, 1) := by decide +kernel
theorem dBo_limitsRow_0 : decode cBo_limitsRow 0 = .ok (.iconst 0, 1) := by decide +kernel
theorem dBo_limitsRow_1 : decode cBo_limitsRow 1 = .ok (.istore_n 3, 1) := by decide +kernel
theorem dBo_limitsRow_2 : decode cBo_limitsRow 2 = .ok (.iload_n 3, 1) := by decide +kernel
theorem dBo_limitsRow_3 : decode cBo_limitsRow 3 = .ok (.iconst 4, 1) := by decide +kernel
theorem dBo_limitsRow_4 : decode cBo_limitsRow 4 = .ok (.if_icmp .ge 36, 3) := by decide +kernel
theorem dBo_limitsRow_7 : decode cBo_limitsRow 7 = .ok (.aload_n 0, 1) := by decide +kernel
theorem dBo_limitsRow_8 : decode cBo_limitsRow 8 = .ok (.getfield 25, 3) := by decide +kernel
theorem dBo_limitsRow_11 : decode cBo_limitsRow 11 = .ok (.iload_n 3, 1) := by decide +kernel
theorem dBo_limitsRow_12 : decode cBo_limitsRow 12 = .ok (.baload, 1) := by decide +kernel
theorem dBo_limitsRow_13 : decode cBo_limitsRow 13 = .ok (.ifCond .eq 21, 3) := by decide +kernel
theorem dBo_limitsRow_16 : decode cBo_limitsRow 16 = .ok (.aload_n 0, 1) := by decide +kernel
theorem dBo_limitsRow_17 : decode cBo_limitsRow 17 = .ok (.iload_n 3, 1) := by decide +kernel
theorem dBo_limitsRow_18 : decode cBo_limitsRow 18 = .ok (.aload_n 1, 1) := by decide +kernel
theorem dBo_limitsRow_19 : decode cBo_limitsRow 19 = .ok (.iload_n 2, 1) := by decide +kernel
theorem dBo_limitsRow_20 : decode cBo_limitsRow 20 = .ok (.invokevirtual 79, 3) := by decide +kernel
theorem dBo_limitsRow_23 : decode cBo_limitsRow 23 = .ok (.aload_n 0, 1) := by decide +kernel
theorem dBo_limitsRow_24 : decode cBo_limitsRow 24 = .ok (.getfield 29, 3) := by decide +kernel
theorem dBo_limitsRow_27 : decode cBo_limitsRow 27 = .ok (.iload_n 3, 1) := by decide +kernel
theorem dBo_limitsRow_28 : decode cBo_limitsRow 28 = .ok (.iaload, 1) := by decide +kernel
theorem dBo_limitsRow_29 : decode cBo_limitsRow 29 = .ok (.if_icmp .le 5, 3) := by decide +kernel
theorem dBo_limitsRow_32 : decode cBo_limitsRow 32 = .ok (.iconst 1, 1) := by decide +kernel
theorem dBo_limitsRow_33 : decode cBo_limitsRow 33 = .ok (.ireturn, 1) := by decide +kernel
theorem dBo_limitsRow_34 : decode cBo_limitsRow 34 = .ok (.iinc 3 1, 3) := by decide +kernel
theorem dBo_limitsRow_37 : decode cBo_limitsRow 37 = .ok (.goto (-35), 3) := by decide +kernel
theorem dBo_limitsRow_40 : decode cBo_limitsRow 40 = .ok (.iconst 0, 1) := by decide +kernel
theorem dBo_limitsRow_41 : decode cBo_limitsRow 41 = .ok (.ireturn, 1) := by decide +kernel
theorem dBo_greatestDifference_0 : decode cBo_greatestDifference 0 = .ok (.lconst 0, 1) := by decide +kernel
theorem dBo_greatestDifference_1 : decode cBo_greatestDifference 1 = .ok (.lstore_n 3, 1) := by decide +kernel
theorem dBo_greatestDifference_2 : decode cBo_greatestDifference 2 = .ok (.iconst 0, 1) := by decide +kernel
theorem dBo_greatestDifference_3 : decode cBo_greatestDifference 3 = .ok (.istore 5, 2) := by decide +kernel
theorem dBo_greatestDifference_5 : decode cBo_greatestDifference 5 = .ok (.iload 5, 2) := by decide +kernel
theorem dBo_greatestDifference_7 : decode cBo_greatestDifference 7 = .ok (.aload_n 0, 1) := by decide +kernel
theorem dBo_greatestDifference_8 : decode cBo_greatestDifference 8 = .ok (.getfield 38, 3) := by decide +kernel
theorem dBo_greatestDifference_11 : decode cBo_greatestDifference 11 = .ok (.getfield 51, 3) := by decide +kernel
theorem dBo_greatestDifference_14 : decode cBo_greatestDifference 14 = .ok (.if_icmp .ge 35, 3) := by decide +kernel
theorem dBo_greatestDifference_17 : decode cBo_greatestDifference 17 = .ok (.aload_n 0, 1) := by decide +kernel
theorem dBo_greatestDifference_18 : decode cBo_greatestDifference 18 = .ok (.getfield 38, 3) := by decide +kernel
theorem dBo_greatestDifference_21 : decode cBo_greatestDifference 21 = .ok (.iload 5, 2) := by decide +kernel
theorem dBo_greatestDifference_23 : decode cBo_greatestDifference 23 = .ok (.iload_n 1, 1) := by decide +kernel
theorem dBo_greatestDifference_24 : decode cBo_greatestDifference 24 = .ok (.invokevirtual 83, 3) := by decide +kernel
theorem dBo_greatestDifference_27 : decode cBo_greatestDifference 27 = .ok (.ifCond .ne 16, 3) := by decide +kernel
theorem dBo_greatestDifference_30 : decode cBo_greatestDifference 30 = .ok (.lload_n 3, 1) := by decide +kernel
theorem dBo_greatestDifference_31 : decode cBo_greatestDifference 31 = .ok (.aload_n 0, 1) := by decide +kernel
theorem dBo_greatestDifference_32 : decode cBo_greatestDifference 32 = .ok (.iload 5, 2) := by decide +kernel
theorem dBo_greatestDifference_34 : decode cBo_greatestDifference 34 = .ok (.iload_n 1, 1) := by decide +kernel
theorem dBo_greatestDifference_35 : decode cBo_greatestDifference 35 = .ok (.iload_n 2, 1) := by decide +kernel
theorem dBo_greatestDifference_36 : decode cBo_greatestDifference 36 = .ok (.invokevirtual 86, 3) := by decide +kernel
theorem dBo_greatestDifference_39 : decode cBo_greatestDifference 39 = .ok (.invokestatic 90, 3) := by decide +kernel
theorem dBo_greatestDifference_42 : decode cBo_greatestDifference 42 = .ok (.lstore_n 3, 1) := by decide +kernel
theorem dBo_greatestDifference_43 : decode cBo_greatestDifference 43 = .ok (.iinc 5 1, 3) := by decide +kernel
theorem dBo_greatestDifference_46 : decode cBo_greatestDifference 46 = .ok (.goto (-41), 3) := by decide +kernel
theorem dBo_greatestDifference_49 : decode cBo_greatestDifference 49 = .ok (.lload_n 3, 1) := by decide +kernel
theorem dBo_greatestDifference_50 : decode cBo_greatestDifference 50 = .ok (.lreturn, 1) := by decide +kernel
theorem dBo_differenceAlong_0 : decode cBo_differenceAlong 0 = .ok (.iconst 0, 1) := by decide +kernel
theorem dBo_differenceAlong_1 : decode cBo_differenceAlong 1 = .ok (.istore 4, 2) := by decide +kernel
theorem dBo_differenceAlong_3 : decode cBo_differenceAlong 3 = .ok (.lconst 0, 1) := by decide +kernel
theorem dBo_differenceAlong_4 : decode cBo_differenceAlong 4 = .ok (.lstore 5, 2) := by decide +kernel
theorem dBo_differenceAlong_6 : decode cBo_differenceAlong 6 = .ok (.lconst 0, 1) := by decide +kernel
theorem dBo_differenceAlong_7 : decode cBo_differenceAlong 7 = .ok (.lstore 7, 2) := by decide +kernel
theorem dBo_differenceAlong_9 : decode cBo_differenceAlong 9 = .ok (.iconst 0, 1) := by decide +kernel
theorem dBo_differenceAlong_10 : decode cBo_differenceAlong 10 = .ok (.istore 9, 2) := by decide +kernel
theorem dBo_differenceAlong_12 : decode cBo_differenceAlong 12 = .ok (.iload 9, 2) := by decide +kernel
theorem dBo_differenceAlong_14 : decode cBo_differenceAlong 14 = .ok (.aload_n 0, 1) := by decide +kernel
theorem dBo_differenceAlong_15 : decode cBo_differenceAlong 15 = .ok (.getfield 38, 3) := by decide +kernel
theorem dBo_differenceAlong_18 : decode cBo_differenceAlong 18 = .ok (.getfield 96, 3) := by decide +kernel
theorem dBo_differenceAlong_21 : decode cBo_differenceAlong 21 = .ok (.iload_n 2, 1) := by decide +kernel
theorem dBo_differenceAlong_22 : decode cBo_differenceAlong 22 = .ok (.iaload, 1) := by decide +kernel
theorem dBo_differenceAlong_23 : decode cBo_differenceAlong 23 = .ok (.if_icmp .ge 85, 3) := by decide +kernel
theorem dBo_differenceAlong_26 : decode cBo_differenceAlong 26 = .ok (.iload_n 1, 1) := by decide +kernel
theorem dBo_differenceAlong_27 : decode cBo_differenceAlong 27 = .ok (.iload 9, 2) := by decide +kernel
theorem dBo_differenceAlong_29 : decode cBo_differenceAlong 29 = .ok (.aload_n 0, 1) := by decide +kernel
theorem dBo_differenceAlong_30 : decode cBo_differenceAlong 30 = .ok (.getfield 38, 3) := by decide +kernel
theorem dBo_differenceAlong_33 : decode cBo_differenceAlong 33 = .ok (.getfield 99, 3) := by decide +kernel
theorem dBo_differenceAlong_36 : decode cBo_differenceAlong 36 = .ok (.iload_n 2, 1) := by decide +kernel
theorem dBo_differenceAlong_37 : decode cBo_differenceAlong 37 = .ok (.iaload, 1) := by decide +kernel
theorem dBo_differenceAlong_38 : decode cBo_differenceAlong 38 = .ok (.imul, 1) := by decide +kernel
theorem dBo_differenceAlong_39 : decode cBo_differenceAlong 39 = .ok (.iadd, 1) := by decide +kernel
theorem dBo_differenceAlong_40 : decode cBo_differenceAlong 40 = .ok (.istore 10, 2) := by decide +kernel
theorem dBo_differenceAlong_42 : decode cBo_differenceAlong 42 = .ok (.aload_n 0, 1) := by decide +kernel
theorem dBo_differenceAlong_43 : decode cBo_differenceAlong 43 = .ok (.iload 10, 2) := by decide +kernel
theorem dBo_differenceAlong_45 : decode cBo_differenceAlong 45 = .ok (.invokevirtual 102, 3) := by decide +kernel
theorem dBo_differenceAlong_48 : decode cBo_differenceAlong 48 = .ok (.ifCond .eq 54, 3) := by decide +kernel
theorem dBo_differenceAlong_51 : decode cBo_differenceAlong 51 = .ok (.aload_n 0, 1) := by decide +kernel
theorem dBo_differenceAlong_52 : decode cBo_differenceAlong 52 = .ok (.iload 10, 2) := by decide +kernel
theorem dBo_differenceAlong_54 : decode cBo_differenceAlong 54 = .ok (.iload_n 3, 1) := by decide +kernel
theorem dBo_differenceAlong_55 : decode cBo_differenceAlong 55 = .ok (.invokevirtual 68, 3) := by decide +kernel
theorem dBo_differenceAlong_58 : decode cBo_differenceAlong 58 = .ok (.i2l, 1) := by decide +kernel
theorem dBo_differenceAlong_59 : decode cBo_differenceAlong 59 = .ok (.lstore 11, 2) := by decide +kernel
theorem dBo_differenceAlong_61 : decode cBo_differenceAlong 61 = .ok (.iload 4, 2) := by decide +kernel
theorem dBo_differenceAlong_63 : decode cBo_differenceAlong 63 = .ok (.ifCond .eq 13, 3) := by decide +kernel
theorem dBo_differenceAlong_66 : decode cBo_differenceAlong 66 = .ok (.lload 5, 2) := by decide +kernel
theorem dBo_differenceAlong_68 : decode cBo_differenceAlong 68 = .ok (.lload 11, 2) := by decide +kernel
theorem dBo_differenceAlong_70 : decode cBo_differenceAlong 70 = .ok (.invokestatic 106, 3) := by decide +kernel
theorem dBo_differenceAlong_73 : decode cBo_differenceAlong 73 = .ok (.goto 5, 3) := by decide +kernel
theorem dBo_differenceAlong_76 : decode cBo_differenceAlong 76 = .ok (.lload 11, 2) := by decide +kernel
theorem dBo_differenceAlong_78 : decode cBo_differenceAlong 78 = .ok (.lstore 5, 2) := by decide +kernel
theorem dBo_differenceAlong_80 : decode cBo_differenceAlong 80 = .ok (.iload 4, 2) := by decide +kernel
theorem dBo_differenceAlong_82 : decode cBo_differenceAlong 82 = .ok (.ifCond .eq 13, 3) := by decide +kernel
theorem dBo_differenceAlong_85 : decode cBo_differenceAlong 85 = .ok (.lload 7, 2) := by decide +kernel
theorem dBo_differenceAlong_87 : decode cBo_differenceAlong 87 = .ok (.lload 11, 2) := by decide +kernel
theorem dBo_differenceAlong_89 : decode cBo_differenceAlong 89 = .ok (.invokestatic 90, 3) := by decide +kernel
theorem dBo_differenceAlong_92 : decode cBo_differenceAlong 92 = .ok (.goto 5, 3) := by decide +kernel
theorem dBo_differenceAlong_95 : decode cBo_differenceAlong 95 = .ok (.lload 11, 2) := by decide +kernel
theorem dBo_differenceAlong_97 : decode cBo_differenceAlong 97 = .ok (.lstore 7, 2) := by decide +kernel
theorem dBo_differenceAlong_99 : decode cBo_differenceAlong 99 = .ok (.iconst 1, 1) := by decide +kernel
theorem dBo_differenceAlong_100 : decode cBo_differenceAlong 100 = .ok (.istore 4, 2) := by decide +kernel
theorem dBo_differenceAlong_102 : decode cBo_differenceAlong 102 = .ok (.iinc 9 1, 3) := by decide +kernel
theorem dBo_differenceAlong_105 : decode cBo_differenceAlong 105 = .ok (.goto (-93), 3) := by decide +kernel
theorem dBo_differenceAlong_108 : decode cBo_differenceAlong 108 = .ok (.lload 7, 2) := by decide +kernel
theorem dBo_differenceAlong_110 : decode cBo_differenceAlong 110 = .ok (.lload 5, 2) := by decide +kernel
theorem dBo_differenceAlong_112 : decode cBo_differenceAlong 112 = .ok (.lsub, 1) := by decide +kernel
theorem dBo_differenceAlong_113 : decode cBo_differenceAlong 113 = .ok (.lreturn, 1) := by decide +kernel
theorem dFr_init_0 : decode cFr_init 0 = .ok (.aload_n 0, 1) := by decide +kernel
theorem dFr_init_1 : decode cFr_init 1 = .ok (.invokespecial 3, 3) := by decide +kernel
theorem dFr_init_4 : decode cFr_init 4 = .ok (.aload_n 0, 1) := by decide +kernel
theorem dFr_init_5 : decode cFr_init 5 = .ok (.sipush 4096, 3) := by decide +kernel
theorem dFr_init_8 : decode cFr_init 8 = .ok (.newarray .int, 2) := by decide +kernel
theorem dFr_init_10 : decode cFr_init 10 = .ok (.putfield 9, 3) := by decide +kernel
theorem dFr_init_13 : decode cFr_init 13 = .ok (.aload_n 0, 1) := by decide +kernel
theorem dFr_init_14 : decode cFr_init 14 = .ok (.sipush 4096, 3) := by decide +kernel
theorem dFr_init_17 : decode cFr_init 17 = .ok (.newarray .int, 2) := by decide +kernel
theorem dFr_init_19 : decode cFr_init 19 = .ok (.putfield 15, 3) := by decide +kernel
theorem dFr_init_22 : decode cFr_init 22 = .ok (.aload_n 0, 1) := by decide +kernel
theorem dFr_init_23 : decode cFr_init 23 = .ok (.iconst 0, 1) := by decide +kernel
theorem dFr_init_24 : decode cFr_init 24 = .ok (.putfield 18, 3) := by decide +kernel
theorem dFr_init_27 : decode cFr_init 27 = .ok (.aload_n 0, 1) := by decide +kernel
theorem dFr_init_28 : decode cFr_init 28 = .ok (.iconst 0, 1) := by decide +kernel
theorem dFr_init_29 : decode cFr_init 29 = .ok (.putfield 22, 3) := by decide +kernel
theorem dFr_init_32 : decode cFr_init 32 = .ok (.aload_n 0, 1) := by decide +kernel
theorem dFr_init_33 : decode cFr_init 33 = .ok (.aload_n 1, 1) := by decide +kernel
theorem dFr_init_34 : decode cFr_init 34 = .ok (.putfield 26, 3) := by decide +kernel
theorem dFr_init_37 : decode cFr_init 37 = .ok (.aload_n 0, 1) := by decide +kernel
theorem dFr_init_38 : decode cFr_init 38 = .ok (.aload_n 2, 1) := by decide +kernel
theorem dFr_init_39 : decode cFr_init 39 = .ok (.putfield 30, 3) := by decide +kernel
theorem dFr_init_42 : decode cFr_init 42 = .ok (.return_, 1) := by decide +kernel
theorem dFr_forget_0 : decode cFr_forget 0 = .ok (.aload_n 0, 1) := by decide +kernel
theorem dFr_forget_1 : decode cFr_forget 1 = .ok (.iconst 0, 1) := by decide +kernel
theorem dFr_forget_2 : decode cFr_forget 2 = .ok (.putfield 22, 3) := by decide +kernel
theorem dFr_forget_5 : decode cFr_forget 5 = .ok (.return_, 1) := by decide +kernel
theorem dFr_refresh_0 : decode cFr_refresh 0 = .ok (.aload_n 0, 1) := by decide +kernel
theorem dFr_refresh_1 : decode cFr_refresh 1 = .ok (.getfield 22, 3) := by decide +kernel
theorem dFr_refresh_4 : decode cFr_refresh 4 = .ok (.ifCond .eq 4, 3) := by decide +kernel
theorem dFr_refresh_7 : decode cFr_refresh 7 = .ok (.return_, 1) := by decide +kernel
theorem dFr_refresh_8 : decode cFr_refresh 8 = .ok (.aload_n 0, 1) := by decide +kernel
theorem dFr_refresh_9 : decode cFr_refresh 9 = .ok (.invokevirtual 34, 3) := by decide +kernel
theorem dFr_refresh_12 : decode cFr_refresh 12 = .ok (.aload_n 0, 1) := by decide +kernel
theorem dFr_refresh_13 : decode cFr_refresh 13 = .ok (.invokevirtual 37, 3) := by decide +kernel
theorem dFr_refresh_16 : decode cFr_refresh 16 = .ok (.aload_n 0, 1) := by decide +kernel
theorem dFr_refresh_17 : decode cFr_refresh 17 = .ok (.iconst 1, 1) := by decide +kernel
theorem dFr_refresh_18 : decode cFr_refresh 18 = .ok (.putfield 22, 3) := by decide +kernel
theorem dFr_refresh_21 : decode cFr_refresh 21 = .ok (.return_, 1) := by decide +kernel
theorem dFr_findHeads_0 : decode cFr_findHeads 0 = .ok (.aload_n 0, 1) := by decide +kernel
theorem dFr_findHeads_1 : decode cFr_findHeads 1 = .ok (.iconst 0, 1) := by decide +kernel
theorem dFr_findHeads_2 : decode cFr_findHeads 2 = .ok (.putfield 18, 3) := by decide +kernel
theorem dFr_findHeads_5 : decode cFr_findHeads 5 = .ok (.iconst 0, 1) := by decide +kernel
theorem dFr_findHeads_6 : decode cFr_findHeads 6 = .ok (.istore_n 1, 1) := by decide +kernel
theorem dFr_findHeads_7 : decode cFr_findHeads 7 = .ok (.iload_n 1, 1) := by decide +kernel
theorem dFr_findHeads_8 : decode cFr_findHeads 8 = .ok (.aload_n 0, 1) := by decide +kernel
theorem dFr_findHeads_9 : decode cFr_findHeads 9 = .ok (.getfield 26, 3) := by decide +kernel
theorem dFr_findHeads_12 : decode cFr_findHeads 12 = .ok (.getfield 40, 3) := by decide +kernel
theorem dFr_findHeads_15 : decode cFr_findHeads 15 = .ok (.if_icmp .ge 70, 3) := by decide +kernel
theorem dFr_findHeads_18 : decode cFr_findHeads 18 = .ok (.aload_n 0, 1) := by decide +kernel
theorem dFr_findHeads_19 : decode cFr_findHeads 19 = .ok (.getfield 15, 3) := by decide +kernel
theorem dFr_findHeads_22 : decode cFr_findHeads 22 = .ok (.iload_n 1, 1) := by decide +kernel
theorem dFr_findHeads_23 : decode cFr_findHeads 23 = .ok (.aload_n 0, 1) := by decide +kernel
theorem dFr_findHeads_24 : decode cFr_findHeads 24 = .ok (.getfield 30, 3) := by decide +kernel
theorem dFr_findHeads_27 : decode cFr_findHeads 27 = .ok (.iload_n 1, 1) := by decide +kernel
theorem dFr_findHeads_28 : decode cFr_findHeads 28 = .ok (.invokevirtual 45, 3) := by decide +kernel
theorem dFr_findHeads_31 : decode cFr_findHeads 31 = .ok (.ifCond .eq 11, 3) := by decide +kernel
theorem dFr_findHeads_34 : decode cFr_findHeads 34 = .ok (.aload_n 0, 1) := by decide +kernel
theorem dFr_findHeads_35 : decode cFr_findHeads 35 = .ok (.iload_n 1, 1) := by decide +kernel
theorem dFr_findHeads_36 : decode cFr_findHeads 36 = .ok (.invokevirtual 51, 3) := by decide +kernel
theorem dFr_findHeads_39 : decode cFr_findHeads 39 = .ok (.goto 4, 3) := by decide +kernel
theorem dFr_findHeads_42 : decode cFr_findHeads 42 = .ok (.iconst (-1), 1) := by decide +kernel
theorem dFr_findHeads_43 : decode cFr_findHeads 43 = .ok (.iastore, 1) := by decide +kernel
theorem dFr_findHeads_44 : decode cFr_findHeads 44 = .ok (.aload_n 0, 1) := by decide +kernel
theorem dFr_findHeads_45 : decode cFr_findHeads 45 = .ok (.getfield 15, 3) := by decide +kernel
theorem dFr_findHeads_48 : decode cFr_findHeads 48 = .ok (.iload_n 1, 1) := by decide +kernel
theorem dFr_findHeads_49 : decode cFr_findHeads 49 = .ok (.iaload, 1) := by decide +kernel
theorem dFr_findHeads_50 : decode cFr_findHeads 50 = .ok (.iload_n 1, 1) := by decide +kernel
theorem dFr_findHeads_51 : decode cFr_findHeads 51 = .ok (.if_icmp .ne 28, 3) := by decide +kernel
theorem dFr_findHeads_54 : decode cFr_findHeads 54 = .ok (.aload_n 0, 1) := by decide +kernel
theorem dFr_findHeads_55 : decode cFr_findHeads 55 = .ok (.iload_n 1, 1) := by decide +kernel
theorem dFr_findHeads_56 : decode cFr_findHeads 56 = .ok (.invokevirtual 55, 3) := by decide +kernel
theorem dFr_findHeads_59 : decode cFr_findHeads 59 = .ok (.aload_n 0, 1) := by decide +kernel
theorem dFr_findHeads_60 : decode cFr_findHeads 60 = .ok (.getfield 9, 3) := by decide +kernel
theorem dFr_findHeads_63 : decode cFr_findHeads 63 = .ok (.aload_n 0, 1) := by decide +kernel
theorem dFr_findHeads_64 : decode cFr_findHeads 64 = .ok (.getfield 18, 3) := by decide +kernel
theorem dFr_findHeads_67 : decode cFr_findHeads 67 = .ok (.iload_n 1, 1) := by decide +kernel
theorem dFr_findHeads_68 : decode cFr_findHeads 68 = .ok (.iastore, 1) := by decide +kernel
theorem dFr_findHeads_69 : decode cFr_findHeads 69 = .ok (.aload_n 0, 1) := by decide +kernel
theorem dFr_findHeads_70 : decode cFr_findHeads 70 = .ok (.dup, 1) := by decide +kernel
theorem dFr_findHeads_71 : decode cFr_findHeads 71 = .ok (.getfield 18, 3) := by decide +kernel
theorem dFr_findHeads_74 : decode cFr_findHeads 74 = .ok (.iconst 1, 1) := by decide +kernel
theorem dFr_findHeads_75 : decode cFr_findHeads 75 = .ok (.iadd, 1) := by decide +kernel
theorem dFr_findHeads_76 : decode cFr_findHeads 76 = .ok (.putfield 18, 3) := by decide +kernel
theorem dFr_findHeads_79 : decode cFr_findHeads 79 = .ok (.iinc 1 1, 3) := by decide +kernel
theorem dFr_findHeads_82 : decode cFr_findHeads 82 = .ok (.goto (-75), 3) := by decide +kernel
theorem dFr_findHeads_85 : decode cFr_findHeads 85 = .ok (.return_, 1) := by decide +kernel
theorem dFr_headFor_0 : decode cFr_headFor 0 = .ok (.iconst 0, 1) := by decide +kernel
theorem dFr_headFor_1 : decode cFr_headFor 1 = .ok (.istore_n 2, 1) := by decide +kernel
theorem dFr_headFor_2 : decode cFr_headFor 2 = .ok (.iload_n 2, 1) := by decide +kernel
theorem dFr_headFor_3 : decode cFr_headFor 3 = .ok (.aload_n 0, 1) := by decide +kernel
theorem dFr_headFor_4 : decode cFr_headFor 4 = .ok (.getfield 18, 3) := by decide +kernel
theorem dFr_headFor_7 : decode cFr_headFor 7 = .ok (.if_icmp .ge 46, 3) := by decide +kernel
theorem dFr_headFor_10 : decode cFr_headFor 10 = .ok (.aload_n 0, 1) := by decide +kernel
theorem dFr_headFor_11 : decode cFr_headFor 11 = .ok (.getfield 9, 3) := by decide +kernel
theorem dFr_headFor_14 : decode cFr_headFor 14 = .ok (.iload_n 2, 1) := by decide +kernel
theorem dFr_headFor_15 : decode cFr_headFor 15 = .ok (.iaload, 1) := by decide +kernel
