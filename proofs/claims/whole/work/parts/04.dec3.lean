theorem dM_cost_42 : decode cM_cost 42 = .ok (.iaload, 1) := by decide +kernel
theorem dM_cost_43 : decode cM_cost 43 = .ok (.i2l, 1) := by decide +kernel
theorem dM_cost_44 : decode cM_cost 44 = .ok (.ladd, 1) := by decide +kernel
theorem dM_cost_45 : decode cM_cost 45 = .ok (.lreturn, 1) := by decide +kernel
theorem dM_walk_0 : decode cM_walk 0 = .ok (.aload_n 0, 1) := by decide +kernel
theorem dM_walk_1 : decode cM_walk 1 = .ok (.iconst 0, 1) := by decide +kernel
theorem dM_walk_2 : decode cM_walk 2 = .ok (.putfield 70, 3) := by decide +kernel
theorem dM_walk_5 : decode cM_walk 5 = .ok (.aload_n 0, 1) := by decide +kernel
theorem dM_walk_6 : decode cM_walk 6 = .ok (.iload_n 1, 1) := by decide +kernel
theorem dM_walk_7 : decode cM_walk 7 = .ok (.invokevirtual 123, 3) := by decide +kernel
theorem dM_walk_10 : decode cM_walk 10 = .ok (.ifCond .ne 9, 3) := by decide +kernel
theorem dM_walk_13 : decode cM_walk 13 = .ok (.aload_n 0, 1) := by decide +kernel
theorem dM_walk_14 : decode cM_walk 14 = .ok (.iconst 1, 1) := by decide +kernel
theorem dM_walk_15 : decode cM_walk 15 = .ok (.invokevirtual 77, 3) := by decide +kernel
theorem dM_walk_18 : decode cM_walk 18 = .ok (.ireturn, 1) := by decide +kernel
theorem dM_walk_19 : decode cM_walk 19 = .ok (.aload_n 0, 1) := by decide +kernel
theorem dM_walk_20 : decode cM_walk 20 = .ok (.invokevirtual 127, 3) := by decide +kernel
theorem dM_walk_23 : decode cM_walk 23 = .ok (.aload_n 0, 1) := by decide +kernel
theorem dM_walk_24 : decode cM_walk 24 = .ok (.getfield 60, 3) := by decide +kernel
theorem dM_walk_27 : decode cM_walk 27 = .ok (.iload_n 1, 1) := by decide +kernel
theorem dM_walk_28 : decode cM_walk 28 = .ok (.baload, 1) := by decide +kernel
theorem dM_walk_29 : decode cM_walk 29 = .ok (.ifCond .eq 14, 3) := by decide +kernel
theorem dM_walk_32 : decode cM_walk 32 = .ok (.iload_n 2, 1) := by decide +kernel
theorem dM_walk_33 : decode cM_walk 33 = .ok (.iconst 1, 1) := by decide +kernel
theorem dM_walk_34 : decode cM_walk 34 = .ok (.sipush 1000, 3) := by decide +kernel
theorem dM_walk_37 : decode cM_walk 37 = .ok (.invokestatic 73, 3) := by decide +kernel
theorem dM_walk_40 : decode cM_walk 40 = .ok (.ifCond .ne 9, 3) := by decide +kernel
theorem dM_walk_43 : decode cM_walk 43 = .ok (.aload_n 0, 1) := by decide +kernel
theorem dM_walk_44 : decode cM_walk 44 = .ok (.iconst 2, 1) := by decide +kernel
theorem dM_walk_45 : decode cM_walk 45 = .ok (.invokevirtual 77, 3) := by decide +kernel
theorem dM_walk_48 : decode cM_walk 48 = .ok (.ireturn, 1) := by decide +kernel
theorem dM_walk_49 : decode cM_walk 49 = .ok (.aload_n 0, 1) := by decide +kernel
theorem dM_walk_50 : decode cM_walk 50 = .ok (.getfield 81, 3) := by decide +kernel
theorem dM_walk_53 : decode cM_walk 53 = .ok (.ifCond .ne 9, 3) := by decide +kernel
theorem dM_walk_56 : decode cM_walk 56 = .ok (.aload_n 0, 1) := by decide +kernel
theorem dM_walk_57 : decode cM_walk 57 = .ok (.iconst 3, 1) := by decide +kernel
theorem dM_walk_58 : decode cM_walk 58 = .ok (.invokevirtual 77, 3) := by decide +kernel
theorem dM_walk_61 : decode cM_walk 61 = .ok (.ireturn, 1) := by decide +kernel
theorem dM_walk_62 : decode cM_walk 62 = .ok (.iload_n 1, 1) := by decide +kernel
theorem dM_walk_63 : decode cM_walk 63 = .ok (.istore_n 3, 1) := by decide +kernel
theorem dM_walk_64 : decode cM_walk 64 = .ok (.aload_n 0, 1) := by decide +kernel
theorem dM_walk_65 : decode cM_walk 65 = .ok (.iload_n 1, 1) := by decide +kernel
theorem dM_walk_66 : decode cM_walk 66 = .ok (.putfield 57, 3) := by decide +kernel
theorem dM_walk_69 : decode cM_walk 69 = .ok (.aload_n 0, 1) := by decide +kernel
theorem dM_walk_70 : decode cM_walk 70 = .ok (.iconst 0, 1) := by decide +kernel
theorem dM_walk_71 : decode cM_walk 71 = .ok (.putfield 156, 3) := by decide +kernel
theorem dM_walk_74 : decode cM_walk 74 = .ok (.iconst 0, 1) := by decide +kernel
theorem dM_walk_75 : decode cM_walk 75 = .ok (.istore 4, 2) := by decide +kernel
theorem dM_walk_77 : decode cM_walk 77 = .ok (.iload 4, 2) := by decide +kernel
theorem dM_walk_79 : decode cM_walk 79 = .ok (.iload_n 2, 1) := by decide +kernel
theorem dM_walk_80 : decode cM_walk 80 = .ok (.if_icmp .ge 112, 3) := by decide +kernel
theorem dM_walk_83 : decode cM_walk 83 = .ok (.aload_n 0, 1) := by decide +kernel
theorem dM_walk_84 : decode cM_walk 84 = .ok (.ldc 159, 2) := by decide +kernel
theorem dM_walk_86 : decode cM_walk 86 = .ok (.aload_n 0, 1) := by decide +kernel
theorem dM_walk_87 : decode cM_walk 87 = .ok (.getfield 67, 3) := by decide +kernel
theorem dM_walk_90 : decode cM_walk 90 = .ok (.imul, 1) := by decide +kernel
theorem dM_walk_91 : decode cM_walk 91 = .ok (.sipush 12345, 3) := by decide +kernel
theorem dM_walk_94 : decode cM_walk 94 = .ok (.iadd, 1) := by decide +kernel
theorem dM_walk_95 : decode cM_walk 95 = .ok (.ldc 66, 2) := by decide +kernel
theorem dM_walk_97 : decode cM_walk 97 = .ok (.iand, 1) := by decide +kernel
theorem dM_walk_98 : decode cM_walk 98 = .ok (.putfield 67, 3) := by decide +kernel
theorem dM_walk_101 : decode cM_walk 101 = .ok (.aload_n 0, 1) := by decide +kernel
theorem dM_walk_102 : decode cM_walk 102 = .ok (.iload_n 3, 1) := by decide +kernel
theorem dM_walk_103 : decode cM_walk 103 = .ok (.aload_n 0, 1) := by decide +kernel
theorem dM_walk_104 : decode cM_walk 104 = .ok (.getfield 67, 3) := by decide +kernel
theorem dM_walk_107 : decode cM_walk 107 = .ok (.ldc 160, 2) := by decide +kernel
theorem dM_walk_109 : decode cM_walk 109 = .ok (.idiv, 1) := by decide +kernel
theorem dM_walk_110 : decode cM_walk 110 = .ok (.aload_n 0, 1) := by decide +kernel
theorem dM_walk_111 : decode cM_walk 111 = .ok (.invokevirtual 146, 3) := by decide +kernel
theorem dM_walk_114 : decode cM_walk 114 = .ok (.irem, 1) := by decide +kernel
theorem dM_walk_115 : decode cM_walk 115 = .ok (.invokevirtual 149, 3) := by decide +kernel
theorem dM_walk_118 : decode cM_walk 118 = .ok (.istore 5, 2) := by decide +kernel
theorem dM_walk_120 : decode cM_walk 120 = .ok (.aload_n 0, 1) := by decide +kernel
theorem dM_walk_121 : decode cM_walk 121 = .ok (.getfield 60, 3) := by decide +kernel
theorem dM_walk_124 : decode cM_walk 124 = .ok (.iload 5, 2) := by decide +kernel
theorem dM_walk_126 : decode cM_walk 126 = .ok (.baload, 1) := by decide +kernel
theorem dM_walk_127 : decode cM_walk 127 = .ok (.ifCond .eq 59, 3) := by decide +kernel
theorem dM_walk_130 : decode cM_walk 130 = .ok (.aload_n 0, 1) := by decide +kernel
theorem dM_walk_131 : decode cM_walk 131 = .ok (.iload 5, 2) := by decide +kernel
theorem dM_walk_133 : decode cM_walk 133 = .ok (.invokevirtual 161, 3) := by decide +kernel
theorem dM_walk_136 : decode cM_walk 136 = .ok (.aload_n 0, 1) := by decide +kernel
theorem dM_walk_137 : decode cM_walk 137 = .ok (.iload_n 3, 1) := by decide +kernel
theorem dM_walk_138 : decode cM_walk 138 = .ok (.invokevirtual 161, 3) := by decide +kernel
theorem dM_walk_141 : decode cM_walk 141 = .ok (.aload_n 0, 1) := by decide +kernel
theorem dM_walk_142 : decode cM_walk 142 = .ok (.getfield 153, 3) := by decide +kernel
theorem dM_walk_145 : decode cM_walk 145 = .ok (.i2l, 1) := by decide +kernel
theorem dM_walk_146 : decode cM_walk 146 = .ok (.ladd, 1) := by decide +kernel
theorem dM_walk_147 : decode cM_walk 147 = .ok (.lcmp, 1) := by decide +kernel
theorem dM_walk_148 : decode cM_walk 148 = .ok (.ifCond .gt 38, 3) := by decide +kernel
theorem dM_walk_151 : decode cM_walk 151 = .ok (.iload 5, 2) := by decide +kernel
theorem dM_walk_153 : decode cM_walk 153 = .ok (.istore_n 3, 1) := by decide +kernel
theorem dM_walk_154 : decode cM_walk 154 = .ok (.aload_n 0, 1) := by decide +kernel
theorem dM_walk_155 : decode cM_walk 155 = .ok (.dup, 1) := by decide +kernel
theorem dM_walk_156 : decode cM_walk 156 = .ok (.getfield 156, 3) := by decide +kernel
theorem dM_walk_159 : decode cM_walk 159 = .ok (.iconst 1, 1) := by decide +kernel
theorem dM_walk_160 : decode cM_walk 160 = .ok (.iadd, 1) := by decide +kernel
theorem dM_walk_161 : decode cM_walk 161 = .ok (.putfield 156, 3) := by decide +kernel
theorem dM_walk_164 : decode cM_walk 164 = .ok (.aload_n 0, 1) := by decide +kernel
theorem dM_walk_165 : decode cM_walk 165 = .ok (.iload_n 3, 1) := by decide +kernel
theorem dM_walk_166 : decode cM_walk 166 = .ok (.invokevirtual 161, 3) := by decide +kernel
theorem dM_walk_169 : decode cM_walk 169 = .ok (.aload_n 0, 1) := by decide +kernel
theorem dM_walk_170 : decode cM_walk 170 = .ok (.aload_n 0, 1) := by decide +kernel
theorem dM_walk_171 : decode cM_walk 171 = .ok (.getfield 57, 3) := by decide +kernel
theorem dM_walk_174 : decode cM_walk 174 = .ok (.invokevirtual 161, 3) := by decide +kernel
theorem dM_walk_177 : decode cM_walk 177 = .ok (.lcmp, 1) := by decide +kernel
theorem dM_walk_178 : decode cM_walk 178 = .ok (.ifCond .ge 8, 3) := by decide +kernel
theorem dM_walk_181 : decode cM_walk 181 = .ok (.aload_n 0, 1) := by decide +kernel
theorem dM_walk_182 : decode cM_walk 182 = .ok (.iload_n 3, 1) := by decide +kernel
theorem dM_walk_183 : decode cM_walk 183 = .ok (.putfield 57, 3) := by decide +kernel
theorem dM_walk_186 : decode cM_walk 186 = .ok (.iinc 4 1, 3) := by decide +kernel
theorem dM_walk_189 : decode cM_walk 189 = .ok (.goto (-112), 3) := by decide +kernel
theorem dM_walk_192 : decode cM_walk 192 = .ok (.iload_n 3, 1) := by decide +kernel
theorem dM_walk_193 : decode cM_walk 193 = .ok (.ireturn, 1) := by decide +kernel
theorem dM_lowest_0 : decode cM_lowest 0 = .ok (.aload_n 0, 1) := by decide +kernel
theorem dM_lowest_1 : decode cM_lowest 1 = .ok (.iconst 0, 1) := by decide +kernel
theorem dM_lowest_2 : decode cM_lowest 2 = .ok (.putfield 70, 3) := by decide +kernel
theorem dM_lowest_5 : decode cM_lowest 5 = .ok (.aload_n 0, 1) := by decide +kernel
theorem dM_lowest_6 : decode cM_lowest 6 = .ok (.getfield 57, 3) := by decide +kernel
theorem dM_lowest_9 : decode cM_lowest 9 = .ok (.ireturn, 1) := by decide +kernel
theorem dM_matters_0 : decode cM_matters 0 = .ok (.aload_n 0, 1) := by decide +kernel
theorem dM_matters_1 : decode cM_matters 1 = .ok (.iload_n 1, 1) := by decide +kernel
theorem dM_matters_2 : decode cM_matters 2 = .ok (.iconst 0, 1) := by decide +kernel
theorem dM_matters_3 : decode cM_matters 3 = .ok (.aload_n 0, 1) := by decide +kernel
theorem dM_matters_4 : decode cM_matters 4 = .ok (.getfield 81, 3) := by decide +kernel
theorem dM_matters_7 : decode cM_matters 7 = .ok (.iconst 1, 1) := by decide +kernel
theorem dM_matters_8 : decode cM_matters 8 = .ok (.isub, 1) := by decide +kernel
theorem dM_matters_9 : decode cM_matters 9 = .ok (.invokestatic 73, 3) := by decide +kernel
theorem dM_matters_12 : decode cM_matters 12 = .ok (.ifCond .eq 16, 3) := by decide +kernel
theorem dM_matters_15 : decode cM_matters 15 = .ok (.iload_n 2, 1) := by decide +kernel
theorem dM_matters_16 : decode cM_matters 16 = .ok (.iconst 0, 1) := by decide +kernel
theorem dM_matters_17 : decode cM_matters 17 = .ok (.iconst 3, 1) := by decide +kernel
theorem dM_matters_18 : decode cM_matters 18 = .ok (.invokestatic 73, 3) := by decide +kernel
theorem dM_matters_21 : decode cM_matters 21 = .ok (.ifCond .eq 7, 3) := by decide +kernel
theorem dM_matters_24 : decode cM_matters 24 = .ok (.iconst 0, 1) := by decide +kernel
theorem dM_matters_25 : decode cM_matters 25 = .ok (.goto 4, 3) := by decide +kernel
theorem dM_matters_28 : decode cM_matters 28 = .ok (.iconst 1, 1) := by decide +kernel
theorem dM_matters_29 : decode cM_matters 29 = .ok (.putfield 70, 3) := by decide +kernel
theorem dM_matters_32 : decode cM_matters 32 = .ok (.aload_n 0, 1) := by decide +kernel
theorem dM_matters_33 : decode cM_matters 33 = .ok (.getfield 70, 3) := by decide +kernel
theorem dM_matters_36 : decode cM_matters 36 = .ok (.ifCond .le 5, 3) := by decide +kernel
theorem dM_matters_39 : decode cM_matters 39 = .ok (.lconst 0, 1) := by decide +kernel
theorem dM_matters_40 : decode cM_matters 40 = .ok (.lreturn, 1) := by decide +kernel
theorem dM_matters_41 : decode cM_matters 41 = .ok (.aload_n 0, 1) := by decide +kernel
theorem dM_matters_42 : decode cM_matters 42 = .ok (.invokevirtual 127, 3) := by decide +kernel
theorem dM_matters_45 : decode cM_matters 45 = .ok (.lconst 0, 1) := by decide +kernel
theorem dM_matters_46 : decode cM_matters 46 = .ok (.lstore_n 3, 1) := by decide +kernel
theorem dM_matters_47 : decode cM_matters 47 = .ok (.iconst 1, 1) := by decide +kernel
theorem dM_matters_48 : decode cM_matters 48 = .ok (.istore 5, 2) := by decide +kernel
theorem dM_matters_50 : decode cM_matters 50 = .ok (.iload_n 1, 1) := by decide +kernel
theorem dM_matters_51 : decode cM_matters 51 = .ok (.iconst 1, 1) := by decide +kernel
theorem dM_matters_52 : decode cM_matters 52 = .ok (.iadd, 1) := by decide +kernel
theorem dM_matters_53 : decode cM_matters 53 = .ok (.istore 6, 2) := by decide +kernel
theorem dM_matters_55 : decode cM_matters 55 = .ok (.iload 6, 2) := by decide +kernel
theorem dM_matters_57 : decode cM_matters 57 = .ok (.aload_n 0, 1) := by decide +kernel
theorem dM_matters_58 : decode cM_matters 58 = .ok (.getfield 81, 3) := by decide +kernel
theorem dM_matters_61 : decode cM_matters 61 = .ok (.if_icmp .ge 21, 3) := by decide +kernel
theorem dM_matters_64 : decode cM_matters 64 = .ok (.iload 5, 2) := by decide +kernel
theorem dM_matters_66 : decode cM_matters 66 = .ok (.aload_n 0, 1) := by decide +kernel
theorem dM_matters_67 : decode cM_matters 67 = .ok (.getfield 13, 3) := by decide +kernel
theorem dM_matters_70 : decode cM_matters 70 = .ok (.iload 6, 2) := by decide +kernel
theorem dM_matters_72 : decode cM_matters 72 = .ok (.iaload, 1) := by decide +kernel
theorem dM_matters_73 : decode cM_matters 73 = .ok (.imul, 1) := by decide +kernel
theorem dM_matters_74 : decode cM_matters 74 = .ok (.istore 5, 2) := by decide +kernel
theorem dM_matters_76 : decode cM_matters 76 = .ok (.iinc 6 1, 3) := by decide +kernel
theorem dM_matters_79 : decode cM_matters 79 = .ok (.goto (-24), 3) := by decide +kernel
theorem dM_matters_82 : decode cM_matters 82 = .ok (.iconst 0, 1) := by decide +kernel
theorem dM_matters_83 : decode cM_matters 83 = .ok (.istore 6, 2) := by decide +kernel
theorem dM_matters_85 : decode cM_matters 85 = .ok (.iload 6, 2) := by decide +kernel
theorem dM_matters_87 : decode cM_matters 87 = .ok (.aload_n 0, 1) := by decide +kernel
theorem dM_matters_88 : decode cM_matters 88 = .ok (.getfield 7, 3) := by decide +kernel
theorem dM_matters_91 : decode cM_matters 91 = .ok (.if_icmp .ge 141, 3) := by decide +kernel
theorem dM_matters_94 : decode cM_matters 94 = .ok (.iload 6, 2) := by decide +kernel
theorem dM_matters_96 : decode cM_matters 96 = .ok (.iload 5, 2) := by decide +kernel
theorem dM_matters_98 : decode cM_matters 98 = .ok (.iadd, 1) := by decide +kernel
theorem dM_matters_99 : decode cM_matters 99 = .ok (.istore 7, 2) := by decide +kernel
theorem dM_matters_101 : decode cM_matters 101 = .ok (.aload_n 0, 1) := by decide +kernel
theorem dM_matters_102 : decode cM_matters 102 = .ok (.getfield 60, 3) := by decide +kernel
theorem dM_matters_105 : decode cM_matters 105 = .ok (.iload 6, 2) := by decide +kernel
theorem dM_matters_107 : decode cM_matters 107 = .ok (.baload, 1) := by decide +kernel
theorem dM_matters_108 : decode cM_matters 108 = .ok (.ifCond .eq 118, 3) := by decide +kernel
theorem dM_matters_111 : decode cM_matters 111 = .ok (.iload 7, 2) := by decide +kernel
theorem dM_matters_113 : decode cM_matters 113 = .ok (.aload_n 0, 1) := by decide +kernel
theorem dM_matters_114 : decode cM_matters 114 = .ok (.getfield 7, 3) := by decide +kernel
theorem dM_matters_117 : decode cM_matters 117 = .ok (.if_icmp .ge 109, 3) := by decide +kernel
theorem dM_matters_120 : decode cM_matters 120 = .ok (.iload 7, 2) := by decide +kernel
theorem dM_matters_122 : decode cM_matters 122 = .ok (.iload 5, 2) := by decide +kernel
theorem dM_matters_124 : decode cM_matters 124 = .ok (.aload_n 0, 1) := by decide +kernel
theorem dM_matters_125 : decode cM_matters 125 = .ok (.getfield 13, 3) := by decide +kernel
theorem dM_matters_128 : decode cM_matters 128 = .ok (.iload_n 1, 1) := by decide +kernel
theorem dM_matters_129 : decode cM_matters 129 = .ok (.iaload, 1) := by decide +kernel
theorem dM_matters_130 : decode cM_matters 130 = .ok (.imul, 1) := by decide +kernel
theorem dM_matters_131 : decode cM_matters 131 = .ok (.idiv, 1) := by decide +kernel
theorem dM_matters_132 : decode cM_matters 132 = .ok (.iload 6, 2) := by decide +kernel
theorem dM_matters_134 : decode cM_matters 134 = .ok (.iload 5, 2) := by decide +kernel
theorem dM_matters_136 : decode cM_matters 136 = .ok (.aload_n 0, 1) := by decide +kernel
theorem dM_matters_137 : decode cM_matters 137 = .ok (.getfield 13, 3) := by decide +kernel
theorem dM_matters_140 : decode cM_matters 140 = .ok (.iload_n 1, 1) := by decide +kernel
theorem dM_matters_141 : decode cM_matters 141 = .ok (.iaload, 1) := by decide +kernel
theorem dM_matters_142 : decode cM_matters 142 = .ok (.imul, 1) := by decide +kernel
theorem dM_matters_143 : decode cM_matters 143 = .ok (.idiv, 1) := by decide +kernel
theorem dM_matters_144 : decode cM_matters 144 = .ok (.if_icmp .ne 82, 3) := by decide +kernel
theorem dM_matters_147 : decode cM_matters 147 = .ok (.aload_n 0, 1) := by decide +kernel
theorem dM_matters_148 : decode cM_matters 148 = .ok (.getfield 63, 3) := by decide +kernel
theorem dM_matters_151 : decode cM_matters 151 = .ok (.iconst 4, 1) := by decide +kernel
theorem dM_matters_152 : decode cM_matters 152 = .ok (.iload 6, 2) := by decide +kernel
theorem dM_matters_154 : decode cM_matters 154 = .ok (.imul, 1) := by decide +kernel
theorem dM_matters_155 : decode cM_matters 155 = .ok (.iload_n 2, 1) := by decide +kernel
theorem dM_matters_156 : decode cM_matters 156 = .ok (.iadd, 1) := by decide +kernel
theorem dM_matters_157 : decode cM_matters 157 = .ok (.iaload, 1) := by decide +kernel
theorem dM_matters_158 : decode cM_matters 158 = .ok (.i2l, 1) := by decide +kernel
theorem dM_matters_159 : decode cM_matters 159 = .ok (.aload_n 0, 1) := by decide +kernel
theorem dM_matters_160 : decode cM_matters 160 = .ok (.getfield 63, 3) := by decide +kernel
theorem dM_matters_163 : decode cM_matters 163 = .ok (.iconst 4, 1) := by decide +kernel
theorem dM_matters_164 : decode cM_matters 164 = .ok (.iload 7, 2) := by decide +kernel
theorem dM_matters_166 : decode cM_matters 166 = .ok (.imul, 1) := by decide +kernel
theorem dM_matters_167 : decode cM_matters 167 = .ok (.iload_n 2, 1) := by decide +kernel
theorem dM_matters_168 : decode cM_matters 168 = .ok (.iadd, 1) := by decide +kernel
theorem dM_matters_169 : decode cM_matters 169 = .ok (.iaload, 1) := by decide +kernel
theorem dM_matters_170 : decode cM_matters 170 = .ok (.i2l, 1) := by decide +kernel
theorem dM_matters_171 : decode cM_matters 171 = .ok (.lsub, 1) := by decide +kernel
theorem dM_matters_172 : decode cM_matters 172 = .ok (.lstore 8, 2) := by decide +kernel
theorem dM_matters_174 : decode cM_matters 174 = .ok (.aload_n 0, 1) := by decide +kernel
theorem dM_matters_175 : decode cM_matters 175 = .ok (.getfield 60, 3) := by decide +kernel
theorem dM_matters_178 : decode cM_matters 178 = .ok (.iload 7, 2) := by decide +kernel
theorem dM_matters_180 : decode cM_matters 180 = .ok (.baload, 1) := by decide +kernel
theorem dM_matters_181 : decode cM_matters 181 = .ok (.ifCond .eq 13, 3) := by decide +kernel
theorem dM_matters_184 : decode cM_matters 184 = .ok (.lload 8, 2) := by decide +kernel
theorem dM_matters_186 : decode cM_matters 186 = .ok (.lload_n 3, 1) := by decide +kernel
theorem dM_matters_187 : decode cM_matters 187 = .ok (.lcmp, 1) := by decide +kernel
theorem dM_matters_188 : decode cM_matters 188 = .ok (.ifCond .le 6, 3) := by decide +kernel
theorem dM_matters_191 : decode cM_matters 191 = .ok (.lload 8, 2) := by decide +kernel
theorem dM_matters_193 : decode cM_matters 193 = .ok (.lstore_n 3, 1) := by decide +kernel
theorem dM_matters_194 : decode cM_matters 194 = .ok (.aload_n 0, 1) := by decide +kernel
theorem dM_matters_195 : decode cM_matters 195 = .ok (.getfield 60, 3) := by decide +kernel
theorem dM_matters_198 : decode cM_matters 198 = .ok (.iload 7, 2) := by decide +kernel
theorem dM_matters_200 : decode cM_matters 200 = .ok (.baload, 1) := by decide +kernel
theorem dM_matters_201 : decode cM_matters 201 = .ok (.ifCond .eq 15, 3) := by decide +kernel
theorem dM_matters_204 : decode cM_matters 204 = .ok (.lload 8, 2) := by decide +kernel
theorem dM_matters_206 : decode cM_matters 206 = .ok (.lneg, 1) := by decide +kernel
theorem dM_matters_207 : decode cM_matters 207 = .ok (.lload_n 3, 1) := by decide +kernel
theorem dM_matters_208 : decode cM_matters 208 = .ok (.lcmp, 1) := by decide +kernel
theorem dM_matters_209 : decode cM_matters 209 = .ok (.ifCond .le 7, 3) := by decide +kernel
theorem dM_matters_212 : decode cM_matters 212 = .ok (.lload 8, 2) := by decide +kernel
theorem dM_matters_214 : decode cM_matters 214 = .ok (.lneg, 1) := by decide +kernel
theorem dM_matters_215 : decode cM_matters 215 = .ok (.lstore_n 3, 1) := by decide +kernel
theorem dM_matters_216 : decode cM_matters 216 = .ok (.iload 7, 2) := by decide +kernel
theorem dM_matters_218 : decode cM_matters 218 = .ok (.iload 5, 2) := by decide +kernel
theorem dM_matters_220 : decode cM_matters 220 = .ok (.iadd, 1) := by decide +kernel
theorem dM_matters_221 : decode cM_matters 221 = .ok (.istore 7, 2) := by decide +kernel
theorem dM_matters_223 : decode cM_matters 223 = .ok (.goto (-122), 3) := by decide +kernel
theorem dM_matters_226 : decode cM_matters 226 = .ok (.iinc 6 1, 3) := by decide +kernel
theorem dM_matters_229 : decode cM_matters 229 = .ok (.goto (-144), 3) := by decide +kernel
theorem dM_matters_232 : decode cM_matters 232 = .ok (.lload_n 3, 1) := by decide +kernel
theorem dM_matters_233 : decode cM_matters 233 = .ok (.lreturn, 1) := by decide +kernel
theorem dM_sweep_0 : decode cM_sweep 0 = .ok (.aload_n 0, 1) := by decide +kernel
theorem dM_sweep_1 : decode cM_sweep 1 = .ok (.iconst 0, 1) := by decide +kernel
theorem dM_sweep_2 : decode cM_sweep 2 = .ok (.putfield 70, 3) := by decide +kernel
theorem dM_sweep_5 : decode cM_sweep 5 = .ok (.iload_n 1, 1) := by decide +kernel
theorem dM_sweep_6 : decode cM_sweep 6 = .ok (.iconst 1, 1) := by decide +kernel
theorem dM_sweep_7 : decode cM_sweep 7 = .ok (.sipush 5000, 3) := by decide +kernel
theorem dM_sweep_10 : decode cM_sweep 10 = .ok (.invokestatic 73, 3) := by decide +kernel
theorem dM_sweep_13 : decode cM_sweep 13 = .ok (.ifCond .ne 9, 3) := by decide +kernel
theorem dM_sweep_16 : decode cM_sweep 16 = .ok (.aload_n 0, 1) := by decide +kernel
theorem dM_sweep_17 : decode cM_sweep 17 = .ok (.iconst 1, 1) := by decide +kernel
theorem dM_sweep_18 : decode cM_sweep 18 = .ok (.invokevirtual 77, 3) := by decide +kernel
theorem dM_sweep_21 : decode cM_sweep 21 = .ok (.ireturn, 1) := by decide +kernel
theorem dM_sweep_22 : decode cM_sweep 22 = .ok (.aload_n 0, 1) := by decide +kernel
theorem dM_sweep_23 : decode cM_sweep 23 = .ok (.getfield 84, 3) := by decide +kernel
theorem dM_sweep_26 : decode cM_sweep 26 = .ok (.aload_n 0, 1) := by decide +kernel
theorem dM_sweep_27 : decode cM_sweep 27 = .ok (.getfield 7, 3) := by decide +kernel
theorem dM_sweep_30 : decode cM_sweep 30 = .ok (.if_icmp .ne 9, 3) := by decide +kernel
theorem dM_sweep_33 : decode cM_sweep 33 = .ok (.aload_n 0, 1) := by decide +kernel
theorem dM_sweep_34 : decode cM_sweep 34 = .ok (.iconst 2, 1) := by decide +kernel
theorem dM_sweep_35 : decode cM_sweep 35 = .ok (.invokevirtual 77, 3) := by decide +kernel
theorem dM_sweep_38 : decode cM_sweep 38 = .ok (.ireturn, 1) := by decide +kernel
theorem dM_sweep_39 : decode cM_sweep 39 = .ok (.aload_n 0, 1) := by decide +kernel
theorem dM_sweep_40 : decode cM_sweep 40 = .ok (.invokevirtual 127, 3) := by decide +kernel
theorem dM_sweep_43 : decode cM_sweep 43 = .ok (.iconst 0, 1) := by decide +kernel
theorem dM_sweep_44 : decode cM_sweep 44 = .ok (.istore_n 2, 1) := by decide +kernel
theorem dM_sweep_45 : decode cM_sweep 45 = .ok (.iconst 0, 1) := by decide +kernel
theorem dM_sweep_46 : decode cM_sweep 46 = .ok (.istore_n 3, 1) := by decide +kernel
theorem dM_sweep_47 : decode cM_sweep 47 = .ok (.iload_n 3, 1) := by decide +kernel
theorem dM_sweep_48 : decode cM_sweep 48 = .ok (.iload_n 1, 1) := by decide +kernel
theorem dM_sweep_49 : decode cM_sweep 49 = .ok (.if_icmp .ge 50, 3) := by decide +kernel
theorem dM_sweep_52 : decode cM_sweep 52 = .ok (.aload_n 0, 1) := by decide +kernel
theorem dM_sweep_53 : decode cM_sweep 53 = .ok (.getfield 84, 3) := by decide +kernel
theorem dM_sweep_56 : decode cM_sweep 56 = .ok (.aload_n 0, 1) := by decide +kernel
theorem dM_sweep_57 : decode cM_sweep 57 = .ok (.getfield 7, 3) := by decide +kernel
theorem dM_sweep_60 : decode cM_sweep 60 = .ok (.if_icmp .ge 39, 3) := by decide +kernel
theorem dM_sweep_63 : decode cM_sweep 63 = .ok (.iload_n 2, 1) := by decide +kernel
theorem dM_sweep_64 : decode cM_sweep 64 = .ok (.aload_n 0, 1) := by decide +kernel
theorem dM_sweep_65 : decode cM_sweep 65 = .ok (.getfield 60, 3) := by decide +kernel
theorem dM_sweep_68 : decode cM_sweep 68 = .ok (.aload_n 0, 1) := by decide +kernel
theorem dM_sweep_69 : decode cM_sweep 69 = .ok (.getfield 84, 3) := by decide +kernel
theorem dM_sweep_72 : decode cM_sweep 72 = .ok (.baload, 1) := by decide +kernel
theorem dM_sweep_73 : decode cM_sweep 73 = .ok (.ifCond .eq 7, 3) := by decide +kernel
theorem dM_sweep_76 : decode cM_sweep 76 = .ok (.iconst 1, 1) := by decide +kernel
theorem dM_sweep_77 : decode cM_sweep 77 = .ok (.goto 4, 3) := by decide +kernel
theorem dM_sweep_80 : decode cM_sweep 80 = .ok (.iconst 0, 1) := by decide +kernel
theorem dM_sweep_81 : decode cM_sweep 81 = .ok (.iadd, 1) := by decide +kernel
theorem dM_sweep_82 : decode cM_sweep 82 = .ok (.istore_n 2, 1) := by decide +kernel
theorem dM_sweep_83 : decode cM_sweep 83 = .ok (.aload_n 0, 1) := by decide +kernel
theorem dM_sweep_84 : decode cM_sweep 84 = .ok (.dup, 1) := by decide +kernel
theorem dM_sweep_85 : decode cM_sweep 85 = .ok (.getfield 84, 3) := by decide +kernel
theorem dM_sweep_88 : decode cM_sweep 88 = .ok (.iconst 1, 1) := by decide +kernel
theorem dM_sweep_89 : decode cM_sweep 89 = .ok (.iadd, 1) := by decide +kernel
theorem dM_sweep_90 : decode cM_sweep 90 = .ok (.putfield 84, 3) := by decide +kernel
theorem dM_sweep_93 : decode cM_sweep 93 = .ok (.iinc 3 1, 3) := by decide +kernel
theorem dM_sweep_96 : decode cM_sweep 96 = .ok (.goto (-49), 3) := by decide +kernel
theorem dM_sweep_99 : decode cM_sweep 99 = .ok (.aload_n 0, 1) := by decide +kernel
theorem dM_sweep_100 : decode cM_sweep 100 = .ok (.dup, 1) := by decide +kernel
theorem dM_sweep_101 : decode cM_sweep 101 = .ok (.getfield 87, 3) := by decide +kernel
theorem dM_sweep_104 : decode cM_sweep 104 = .ok (.iload_n 2, 1) := by decide +kernel
theorem dM_sweep_105 : decode cM_sweep 105 = .ok (.iadd, 1) := by decide +kernel
theorem dM_sweep_106 : decode cM_sweep 106 = .ok (.putfield 87, 3) := by decide +kernel
theorem dM_sweep_109 : decode cM_sweep 109 = .ok (.iload_n 2, 1) := by decide +kernel
theorem dM_sweep_110 : decode cM_sweep 110 = .ok (.ireturn, 1) := by decide +kernel
theorem dM_count_0 : decode cM_count 0 = .ok (.aload_n 0, 1) := by decide +kernel
theorem dM_count_1 : decode cM_count 1 = .ok (.iconst 0, 1) := by decide +kernel
theorem dM_count_2 : decode cM_count 2 = .ok (.putfield 70, 3) := by decide +kernel
theorem dM_count_5 : decode cM_count 5 = .ok (.iconst 0, 1) := by decide +kernel
theorem dM_count_6 : decode cM_count 6 = .ok (.istore_n 2, 1) := by decide +kernel
theorem dM_count_7 : decode cM_count 7 = .ok (.iload_n 1, 1) := by decide +kernel
theorem dM_count_8 : decode cM_count 8 = .ok (.tableswitch 139 0 8 #[52, 57, 62, 67, 72, 104, 109, 129, 134], 52) := by decide +kernel
theorem dM_count_60 : decode cM_count 60 = .ok (.aload_n 0, 1) := by decide +kernel
theorem dM_count_61 : decode cM_count 61 = .ok (.getfield 81, 3) := by decide +kernel
theorem dM_count_64 : decode cM_count 64 = .ok (.ireturn, 1) := by decide +kernel
theorem dM_count_65 : decode cM_count 65 = .ok (.aload_n 0, 1) := by decide +kernel
theorem dM_count_66 : decode cM_count 66 = .ok (.getfield 7, 3) := by decide +kernel
theorem dM_count_69 : decode cM_count 69 = .ok (.ireturn, 1) := by decide +kernel
theorem dM_count_70 : decode cM_count 70 = .ok (.aload_n 0, 1) := by decide +kernel
theorem dM_count_71 : decode cM_count 71 = .ok (.getfield 100, 3) := by decide +kernel
theorem dM_count_74 : decode cM_count 74 = .ok (.ireturn, 1) := by decide +kernel
theorem dM_count_75 : decode cM_count 75 = .ok (.aload_n 0, 1) := by decide +kernel
theorem dM_count_76 : decode cM_count 76 = .ok (.getfield 103, 3) := by decide +kernel
theorem dM_count_79 : decode cM_count 79 = .ok (.ireturn, 1) := by decide +kernel
theorem dM_count_80 : decode cM_count 80 = .ok (.iconst 0, 1) := by decide +kernel
theorem dM_count_81 : decode cM_count 81 = .ok (.istore_n 3, 1) := by decide +kernel
theorem dM_count_82 : decode cM_count 82 = .ok (.iload_n 3, 1) := by decide +kernel
theorem dM_count_83 : decode cM_count 83 = .ok (.iconst 4, 1) := by decide +kernel
theorem dM_count_84 : decode cM_count 84 = .ok (.if_icmp .ge 26, 3) := by decide +kernel
theorem dM_count_87 : decode cM_count 87 = .ok (.iload_n 2, 1) := by decide +kernel
theorem dM_count_88 : decode cM_count 88 = .ok (.aload_n 0, 1) := by decide +kernel
theorem dM_count_89 : decode cM_count 89 = .ok (.getfield 47, 3) := by decide +kernel
theorem dM_count_92 : decode cM_count 92 = .ok (.iload_n 3, 1) := by decide +kernel
theorem dM_count_93 : decode cM_count 93 = .ok (.baload, 1) := by decide +kernel
theorem dM_count_94 : decode cM_count 94 = .ok (.ifCond .eq 7, 3) := by decide +kernel
theorem dM_count_97 : decode cM_count 97 = .ok (.iconst 1, 1) := by decide +kernel
theorem dM_count_98 : decode cM_count 98 = .ok (.goto 4, 3) := by decide +kernel
theorem dM_count_101 : decode cM_count 101 = .ok (.iconst 0, 1) := by decide +kernel
theorem dM_count_102 : decode cM_count 102 = .ok (.iadd, 1) := by decide +kernel
theorem dM_count_103 : decode cM_count 103 = .ok (.istore_n 2, 1) := by decide +kernel
theorem dM_count_104 : decode cM_count 104 = .ok (.iinc 3 1, 3) := by decide +kernel
theorem dM_count_107 : decode cM_count 107 = .ok (.goto (-25), 3) := by decide +kernel
theorem dM_count_110 : decode cM_count 110 = .ok (.iload_n 2, 1) := by decide +kernel
theorem dM_count_111 : decode cM_count 111 = .ok (.ireturn, 1) := by decide +kernel
theorem dM_count_112 : decode cM_count 112 = .ok (.aload_n 0, 1) := by decide +kernel
theorem dM_count_113 : decode cM_count 113 = .ok (.getfield 153, 3) := by decide +kernel
theorem dM_count_116 : decode cM_count 116 = .ok (.ireturn, 1) := by decide +kernel
theorem dM_count_117 : decode cM_count 117 = .ok (.aload_n 0, 1) := by decide +kernel
theorem dM_count_118 : decode cM_count 118 = .ok (.getfield 84, 3) := by decide +kernel
theorem dM_count_121 : decode cM_count 121 = .ok (.aload_n 0, 1) := by decide +kernel
theorem dM_count_122 : decode cM_count 122 = .ok (.getfield 7, 3) := by decide +kernel
theorem dM_count_125 : decode cM_count 125 = .ok (.if_icmp .ne 7, 3) := by decide +kernel
theorem dM_count_128 : decode cM_count 128 = .ok (.iconst (-1), 1) := by decide +kernel
theorem dM_count_129 : decode cM_count 129 = .ok (.goto 7, 3) := by decide +kernel
theorem dM_count_132 : decode cM_count 132 = .ok (.aload_n 0, 1) := by decide +kernel
theorem dM_count_133 : decode cM_count 133 = .ok (.getfield 84, 3) := by decide +kernel
theorem dM_count_136 : decode cM_count 136 = .ok (.ireturn, 1) := by decide +kernel
theorem dM_count_137 : decode cM_count 137 = .ok (.aload_n 0, 1) := by decide +kernel
theorem dM_count_138 : decode cM_count 138 = .ok (.getfield 87, 3) := by decide +kernel
theorem dM_count_141 : decode cM_count 141 = .ok (.ireturn, 1) := by decide +kernel
theorem dM_count_142 : decode cM_count 142 = .ok (.aload_n 0, 1) := by decide +kernel
theorem dM_count_143 : decode cM_count 143 = .ok (.getfield 156, 3) := by decide +kernel
theorem dM_count_146 : decode cM_count 146 = .ok (.ireturn, 1) := by decide +kernel
theorem dM_count_147 : decode cM_count 147 = .ok (.iconst (-1), 1) := by decide +kernel
theorem dM_count_148 : decode cM_count 148 = .ok (.ireturn, 1) := by decide +kernel
