theorem dK_0 : decode code 0 = .ok (.new 8, 3) := by decide +kernel
theorem dK_3 : decode code 3 = .ok (.dup, 1) := by decide +kernel
theorem dK_4 : decode code 4 = .ok (.aload_n 0, 1) := by decide +kernel
theorem dK_5 : decode code 5 = .ok (.iconst 0, 1) := by decide +kernel
theorem dK_6 : decode code 6 = .ok (.invokestatic 74, 3) := by decide +kernel
theorem dK_9 : decode code 9 = .ok (.invokespecial 80, 3) := by decide +kernel
theorem dK_12 : decode code 12 = .ok (.astore_n 1, 1) := by decide +kernel
theorem dK_13 : decode code 13 = .ok (.new 83, 3) := by decide +kernel
theorem dK_16 : decode code 16 = .ok (.dup, 1) := by decide +kernel
theorem dK_17 : decode code 17 = .ok (.aload_n 0, 1) := by decide +kernel
theorem dK_18 : decode code 18 = .ok (.iconst 0, 1) := by decide +kernel
theorem dK_19 : decode code 19 = .ok (.invokestatic 74, 3) := by decide +kernel
theorem dK_22 : decode code 22 = .ok (.invokespecial 85, 3) := by decide +kernel
theorem dK_25 : decode code 25 = .ok (.astore_n 2, 1) := by decide +kernel
theorem dK_26 : decode code 26 = .ok (.iconst 1, 1) := by decide +kernel
theorem dK_27 : decode code 27 = .ok (.newarray .long, 2) := by decide +kernel
theorem dK_29 : decode code 29 = .ok (.astore_n 3, 1) := by decide +kernel
theorem dK_30 : decode code 30 = .ok (.iconst 1, 1) := by decide +kernel
theorem dK_31 : decode code 31 = .ok (.istore 4, 2) := by decide +kernel
theorem dK_33 : decode code 33 = .ok (.iload 4, 2) := by decide +kernel
theorem dK_35 : decode code 35 = .ok (.aload_n 0, 1) := by decide +kernel
theorem dK_36 : decode code 36 = .ok (.arraylength, 1) := by decide +kernel
theorem dK_37 : decode code 37 = .ok (.bipush 7, 2) := by decide +kernel
theorem dK_39 : decode code 39 = .ok (.isub, 1) := by decide +kernel
theorem dK_40 : decode code 40 = .ok (.if_icmp .gt 1324, 3) := by decide +kernel
theorem dK_43 : decode code 43 = .ok (.aload_n 0, 1) := by decide +kernel
theorem dK_44 : decode code 44 = .ok (.iload 4, 2) := by decide +kernel
theorem dK_46 : decode code 46 = .ok (.iaload, 1) := by decide +kernel
theorem dK_47 : decode code 47 = .ok (.bipush 31, 2) := by decide +kernel
theorem dK_49 : decode code 49 = .ok (.iand, 1) := by decide +kernel
theorem dK_50 : decode code 50 = .ok (.tableswitch 1308 0 19 #[94, 150, 268, 360, 463, 531, 599, 662, 737, 750, 806, 862, 875, 955, 1023, 1079, 1147, 1160, 1227, 1283], 94) := by decide +kernel
theorem dK_144 : decode code 144 = .ok (.aload_n 1, 1) := by decide +kernel
theorem dK_145 : decode code 145 = .ok (.aload_n 0, 1) := by decide +kernel
theorem dK_146 : decode code 146 = .ok (.iload 4, 2) := by decide +kernel
theorem dK_148 : decode code 148 = .ok (.iconst 1, 1) := by decide +kernel
theorem dK_149 : decode code 149 = .ok (.iadd, 1) := by decide +kernel
theorem dK_150 : decode code 150 = .ok (.iaload, 1) := by decide +kernel
theorem dK_151 : decode code 151 = .ok (.aload_n 3, 1) := by decide +kernel
theorem dK_152 : decode code 152 = .ok (.invokestatic 86, 3) := by decide +kernel
theorem dK_155 : decode code 155 = .ok (.istore 5, 2) := by decide +kernel
theorem dK_157 : decode code 157 = .ok (.aload_n 2, 1) := by decide +kernel
theorem dK_158 : decode code 158 = .ok (.aload_n 0, 1) := by decide +kernel
theorem dK_159 : decode code 159 = .ok (.iload 4, 2) := by decide +kernel
theorem dK_161 : decode code 161 = .ok (.iconst 1, 1) := by decide +kernel
theorem dK_162 : decode code 162 = .ok (.iadd, 1) := by decide +kernel
theorem dK_163 : decode code 163 = .ok (.iaload, 1) := by decide +kernel
theorem dK_164 : decode code 164 = .ok (.invokevirtual 89, 3) := by decide +kernel
theorem dK_167 : decode code 167 = .ok (.istore 6, 2) := by decide +kernel
theorem dK_169 : decode code 169 = .ok (.aload_n 2, 1) := by decide +kernel
theorem dK_170 : decode code 170 = .ok (.invokevirtual 90, 3) := by decide +kernel
theorem dK_173 : decode code 173 = .ok (.iload 5, 2) := by decide +kernel
theorem dK_175 : decode code 175 = .ok (.if_icmp .eq 5, 3) := by decide +kernel
theorem dK_178 : decode code 178 = .ok (.iconst 0, 1) := by decide +kernel
theorem dK_179 : decode code 179 = .ok (.ireturn, 1) := by decide +kernel
theorem dK_180 : decode code 180 = .ok (.iload 5, 2) := by decide +kernel
theorem dK_182 : decode code 182 = .ok (.ifCond .ne 15, 3) := by decide +kernel
theorem dK_185 : decode code 185 = .ok (.aload_n 3, 1) := by decide +kernel
theorem dK_186 : decode code 186 = .ok (.iconst 0, 1) := by decide +kernel
theorem dK_187 : decode code 187 = .ok (.laload, 1) := by decide +kernel
theorem dK_188 : decode code 188 = .ok (.iload 6, 2) := by decide +kernel
theorem dK_190 : decode code 190 = .ok (.i2l, 1) := by decide +kernel
theorem dK_191 : decode code 191 = .ok (.lcmp, 1) := by decide +kernel
theorem dK_192 : decode code 192 = .ok (.ifCond .eq 5, 3) := by decide +kernel
theorem dK_195 : decode code 195 = .ok (.iconst 0, 1) := by decide +kernel
theorem dK_196 : decode code 196 = .ok (.ireturn, 1) := by decide +kernel
theorem dK_197 : decode code 197 = .ok (.goto 1161, 3) := by decide +kernel
theorem dK_200 : decode code 200 = .ok (.aload_n 1, 1) := by decide +kernel
theorem dK_201 : decode code 201 = .ok (.aload_n 0, 1) := by decide +kernel
theorem dK_202 : decode code 202 = .ok (.iload 4, 2) := by decide +kernel
theorem dK_204 : decode code 204 = .ok (.iconst 1, 1) := by decide +kernel
theorem dK_205 : decode code 205 = .ok (.iadd, 1) := by decide +kernel
theorem dK_206 : decode code 206 = .ok (.iaload, 1) := by decide +kernel
theorem dK_207 : decode code 207 = .ok (.aload_n 0, 1) := by decide +kernel
theorem dK_208 : decode code 208 = .ok (.iload 4, 2) := by decide +kernel
theorem dK_210 : decode code 210 = .ok (.iconst 2, 1) := by decide +kernel
theorem dK_211 : decode code 211 = .ok (.iadd, 1) := by decide +kernel
theorem dK_212 : decode code 212 = .ok (.iaload, 1) := by decide +kernel
theorem dK_213 : decode code 213 = .ok (.aload_n 0, 1) := by decide +kernel
theorem dK_214 : decode code 214 = .ok (.iload 4, 2) := by decide +kernel
theorem dK_216 : decode code 216 = .ok (.iconst 3, 1) := by decide +kernel
theorem dK_217 : decode code 217 = .ok (.iadd, 1) := by decide +kernel
theorem dK_218 : decode code 218 = .ok (.iaload, 1) := by decide +kernel
theorem dK_219 : decode code 219 = .ok (.aload_n 0, 1) := by decide +kernel
theorem dK_220 : decode code 220 = .ok (.iload 4, 2) := by decide +kernel
theorem dK_222 : decode code 222 = .ok (.iconst 4, 1) := by decide +kernel
theorem dK_223 : decode code 223 = .ok (.iadd, 1) := by decide +kernel
theorem dK_224 : decode code 224 = .ok (.iaload, 1) := by decide +kernel
theorem dK_225 : decode code 225 = .ok (.aload_n 0, 1) := by decide +kernel
theorem dK_226 : decode code 226 = .ok (.iload 4, 2) := by decide +kernel
theorem dK_228 : decode code 228 = .ok (.iconst 5, 1) := by decide +kernel
theorem dK_229 : decode code 229 = .ok (.iadd, 1) := by decide +kernel
theorem dK_230 : decode code 230 = .ok (.iaload, 1) := by decide +kernel
theorem dK_231 : decode code 231 = .ok (.aload_n 0, 1) := by decide +kernel
theorem dK_232 : decode code 232 = .ok (.iload 4, 2) := by decide +kernel
theorem dK_234 : decode code 234 = .ok (.bipush 6, 2) := by decide +kernel
theorem dK_236 : decode code 236 = .ok (.iadd, 1) := by decide +kernel
theorem dK_237 : decode code 237 = .ok (.iaload, 1) := by decide +kernel
theorem dK_238 : decode code 238 = .ok (.aload_n 3, 1) := by decide +kernel
theorem dK_239 : decode code 239 = .ok (.invokestatic 94, 3) := by decide +kernel
theorem dK_242 : decode code 242 = .ok (.istore 5, 2) := by decide +kernel
theorem dK_244 : decode code 244 = .ok (.aload_n 2, 1) := by decide +kernel
theorem dK_245 : decode code 245 = .ok (.aload_n 0, 1) := by decide +kernel
theorem dK_246 : decode code 246 = .ok (.iload 4, 2) := by decide +kernel
theorem dK_248 : decode code 248 = .ok (.iconst 1, 1) := by decide +kernel
theorem dK_249 : decode code 249 = .ok (.iadd, 1) := by decide +kernel
theorem dK_250 : decode code 250 = .ok (.iaload, 1) := by decide +kernel
theorem dK_251 : decode code 251 = .ok (.aload_n 0, 1) := by decide +kernel
theorem dK_252 : decode code 252 = .ok (.iload 4, 2) := by decide +kernel
theorem dK_254 : decode code 254 = .ok (.iconst 2, 1) := by decide +kernel
theorem dK_255 : decode code 255 = .ok (.iadd, 1) := by decide +kernel
theorem dK_256 : decode code 256 = .ok (.iaload, 1) := by decide +kernel
theorem dK_257 : decode code 257 = .ok (.aload_n 0, 1) := by decide +kernel
theorem dK_258 : decode code 258 = .ok (.iload 4, 2) := by decide +kernel
theorem dK_260 : decode code 260 = .ok (.iconst 3, 1) := by decide +kernel
theorem dK_261 : decode code 261 = .ok (.iadd, 1) := by decide +kernel
theorem dK_262 : decode code 262 = .ok (.iaload, 1) := by decide +kernel
theorem dK_263 : decode code 263 = .ok (.aload_n 0, 1) := by decide +kernel
theorem dK_264 : decode code 264 = .ok (.iload 4, 2) := by decide +kernel
theorem dK_266 : decode code 266 = .ok (.iconst 4, 1) := by decide +kernel
theorem dK_267 : decode code 267 = .ok (.iadd, 1) := by decide +kernel
