theorem dX7_init_0 : decode cX7_init 0 = .ok (.aload_n 0, 1) := by decide +kernel
theorem dX7_init_1 : decode cX7_init 1 = .ok (.invokespecial 3, 3) := by decide +kernel
theorem dX7_init_4 : decode cX7_init 4 = .ok (.aload_n 0, 1) := by decide +kernel
theorem dX7_init_5 : decode cX7_init 5 = .ok (.bipush 40, 2) := by decide +kernel
theorem dX7_init_7 : decode cX7_init 7 = .ok (.newarray .int, 2) := by decide +kernel
theorem dX7_init_9 : decode cX7_init 9 = .ok (.putfield 11, 3) := by decide +kernel
theorem dX7_init_12 : decode cX7_init 12 = .ok (.return_, 1) := by decide +kernel
theorem dX7_speak_0 : decode cX7_speak 0 = .ok (.aload_n 0, 1) := by decide +kernel
theorem dX7_speak_1 : decode cX7_speak 1 = .ok (.iload_n 1, 1) := by decide +kernel
theorem dX7_speak_2 : decode cX7_speak 2 = .ok (.putfield 15, 3) := by decide +kernel
theorem dX7_speak_5 : decode cX7_speak 5 = .ok (.aload_n 0, 1) := by decide +kernel
theorem dX7_speak_6 : decode cX7_speak 6 = .ok (.iload_n 2, 1) := by decide +kernel
theorem dX7_speak_7 : decode cX7_speak 7 = .ok (.putfield 19, 3) := by decide +kernel
theorem dX7_speak_10 : decode cX7_speak 10 = .ok (.aload_n 0, 1) := by decide +kernel
theorem dX7_speak_11 : decode cX7_speak 11 = .ok (.iload_n 3, 1) := by decide +kernel
theorem dX7_speak_12 : decode cX7_speak 12 = .ok (.putfield 22, 3) := by decide +kernel
theorem dX7_speak_15 : decode cX7_speak 15 = .ok (.aload_n 0, 1) := by decide +kernel
theorem dX7_speak_16 : decode cX7_speak 16 = .ok (.iconst 0, 1) := by decide +kernel
theorem dX7_speak_17 : decode cX7_speak 17 = .ok (.putfield 25, 3) := by decide +kernel
theorem dX7_speak_20 : decode cX7_speak 20 = .ok (.aload_n 0, 1) := by decide +kernel
theorem dX7_speak_21 : decode cX7_speak 21 = .ok (.iload_n 1, 1) := by decide +kernel
theorem dX7_speak_22 : decode cX7_speak 22 = .ok (.iload 4, 2) := by decide +kernel
theorem dX7_speak_24 : decode cX7_speak 24 = .ok (.iload 5, 2) := by decide +kernel
theorem dX7_speak_26 : decode cX7_speak 26 = .ok (.iconst 0, 1) := by decide +kernel
theorem dX7_speak_27 : decode cX7_speak 27 = .ok (.invokevirtual 28, 3) := by decide +kernel
theorem dX7_speak_30 : decode cX7_speak 30 = .ok (.ireturn, 1) := by decide +kernel
theorem dX7_say_0 : decode cX7_say 0 = .ok (.iload_n 1, 1) := by decide +kernel
theorem dX7_say_1 : decode cX7_say 1 = .ok (.istore 5, 2) := by decide +kernel
theorem dX7_say_3 : decode cX7_say 3 = .ok (.iconst 0, 1) := by decide +kernel
theorem dX7_say_4 : decode cX7_say 4 = .ok (.istore 6, 2) := by decide +kernel
theorem dX7_say_6 : decode cX7_say 6 = .ok (.iload 6, 2) := by decide +kernel
theorem dX7_say_8 : decode cX7_say 8 = .ok (.getstatic 32, 3) := by decide +kernel
theorem dX7_say_11 : decode cX7_say 11 = .ok (.arraylength, 1) := by decide +kernel
theorem dX7_say_12 : decode cX7_say 12 = .ok (.if_icmp .ge 69, 3) := by decide +kernel
theorem dX7_say_15 : decode cX7_say 15 = .ok (.iload 5, 2) := by decide +kernel
theorem dX7_say_17 : decode cX7_say 17 = .ok (.iconst (-1), 1) := by decide +kernel
theorem dX7_say_18 : decode cX7_say 18 = .ok (.if_icmp .eq 63, 3) := by decide +kernel
theorem dX7_say_21 : decode cX7_say 21 = .ok (.getstatic 35, 3) := by decide +kernel
theorem dX7_say_24 : decode cX7_say 24 = .ok (.iload 5, 2) := by decide +kernel
theorem dX7_say_26 : decode cX7_say 26 = .ok (.iconst 4, 1) := by decide +kernel
theorem dX7_say_27 : decode cX7_say 27 = .ok (.imul, 1) := by decide +kernel
theorem dX7_say_28 : decode cX7_say 28 = .ok (.iload_n 2, 1) := by decide +kernel
theorem dX7_say_29 : decode cX7_say 29 = .ok (.iadd, 1) := by decide +kernel
theorem dX7_say_30 : decode cX7_say 30 = .ok (.iaload, 1) := by decide +kernel
theorem dX7_say_31 : decode cX7_say 31 = .ok (.istore 7, 2) := by decide +kernel
theorem dX7_say_33 : decode cX7_say 33 = .ok (.iload 7, 2) := by decide +kernel
theorem dX7_say_35 : decode cX7_say 35 = .ok (.ifCond .eq 32, 3) := by decide +kernel
theorem dX7_say_38 : decode cX7_say 38 = .ok (.iload 4, 2) := by decide +kernel
theorem dX7_say_40 : decode cX7_say 40 = .ok (.bipush 40, 2) := by decide +kernel
theorem dX7_say_42 : decode cX7_say 42 = .ok (.if_icmp .ge 23, 3) := by decide +kernel
theorem dX7_say_45 : decode cX7_say 45 = .ok (.aload_n 0, 1) := by decide +kernel
theorem dX7_say_46 : decode cX7_say 46 = .ok (.iload 7, 2) := by decide +kernel
theorem dX7_say_48 : decode cX7_say 48 = .ok (.getstatic 32, 3) := by decide +kernel
theorem dX7_say_51 : decode cX7_say 51 = .ok (.iload 5, 2) := by decide +kernel
theorem dX7_say_53 : decode cX7_say 53 = .ok (.iaload, 1) := by decide +kernel
theorem dX7_say_54 : decode cX7_say 54 = .ok (.iload_n 3, 1) := by decide +kernel
theorem dX7_say_55 : decode cX7_say 55 = .ok (.iload 4, 2) := by decide +kernel
theorem dX7_say_57 : decode cX7_say 57 = .ok (.iconst 1, 1) := by decide +kernel
theorem dX7_say_58 : decode cX7_say 58 = .ok (.iadd, 1) := by decide +kernel
theorem dX7_say_59 : decode cX7_say 59 = .ok (.invokevirtual 38, 3) := by decide +kernel
theorem dX7_say_62 : decode cX7_say 62 = .ok (.goto 4, 3) := by decide +kernel
theorem dX7_say_65 : decode cX7_say 65 = .ok (.iconst 0, 1) := by decide +kernel
theorem dX7_say_66 : decode cX7_say 66 = .ok (.ireturn, 1) := by decide +kernel
theorem dX7_say_67 : decode cX7_say 67 = .ok (.getstatic 32, 3) := by decide +kernel
theorem dX7_say_70 : decode cX7_say 70 = .ok (.iload 5, 2) := by decide +kernel
theorem dX7_say_72 : decode cX7_say 72 = .ok (.iaload, 1) := by decide +kernel
theorem dX7_say_73 : decode cX7_say 73 = .ok (.istore 5, 2) := by decide +kernel
theorem dX7_say_75 : decode cX7_say 75 = .ok (.iinc 6 1, 3) := by decide +kernel
theorem dX7_say_78 : decode cX7_say 78 = .ok (.goto (-72), 3) := by decide +kernel
theorem dX7_say_81 : decode cX7_say 81 = .ok (.iconst 0, 1) := by decide +kernel
theorem dX7_say_82 : decode cX7_say 82 = .ok (.ireturn, 1) := by decide +kernel
theorem dX7_work_0 : decode cX7_work 0 = .ok (.aload_n 0, 1) := by decide +kernel
theorem dX7_work_1 : decode cX7_work 1 = .ok (.getfield 25, 3) := by decide +kernel
theorem dX7_work_4 : decode cX7_work 4 = .ok (.bipush 40, 2) := by decide +kernel
theorem dX7_work_6 : decode cX7_work 6 = .ok (.if_icmp .ge 23, 3) := by decide +kernel
theorem dX7_work_9 : decode cX7_work 9 = .ok (.aload_n 0, 1) := by decide +kernel
theorem dX7_work_10 : decode cX7_work 10 = .ok (.getfield 11, 3) := by decide +kernel
theorem dX7_work_13 : decode cX7_work 13 = .ok (.aload_n 0, 1) := by decide +kernel
theorem dX7_work_14 : decode cX7_work 14 = .ok (.getfield 25, 3) := by decide +kernel
theorem dX7_work_17 : decode cX7_work 17 = .ok (.iload_n 1, 1) := by decide +kernel
theorem dX7_work_18 : decode cX7_work 18 = .ok (.iastore, 1) := by decide +kernel
theorem dX7_work_19 : decode cX7_work 19 = .ok (.aload_n 0, 1) := by decide +kernel
theorem dX7_work_20 : decode cX7_work 20 = .ok (.dup, 1) := by decide +kernel
theorem dX7_work_21 : decode cX7_work 21 = .ok (.getfield 25, 3) := by decide +kernel
theorem dX7_work_24 : decode cX7_work 24 = .ok (.iconst 1, 1) := by decide +kernel
theorem dX7_work_25 : decode cX7_work 25 = .ok (.iadd, 1) := by decide +kernel
theorem dX7_work_26 : decode cX7_work 26 = .ok (.putfield 25, 3) := by decide +kernel
theorem dX7_work_29 : decode cX7_work 29 = .ok (.iload_n 1, 1) := by decide +kernel
theorem dX7_work_30 : decode cX7_work 30 = .ok (.lookupswitch 272 #[(10, 98), (11, 105), (12, 120), (13, 127), (20, 153), (30, 165), (40, 188), (50, 199), (60, 222), (70, 234), (71, 249)], 98) := by decide +kernel
theorem dX7_work_128 : decode cX7_work 128 = .ok (.iload_n 3, 1) := by decide +kernel
theorem dX7_work_129 : decode cX7_work 129 = .ok (.aload_n 0, 1) := by decide +kernel
theorem dX7_work_130 : decode cX7_work 130 = .ok (.getfield 19, 3) := by decide +kernel
theorem dX7_work_133 : decode cX7_work 133 = .ok (.iadd, 1) := by decide +kernel
theorem dX7_work_134 : decode cX7_work 134 = .ok (.ireturn, 1) := by decide +kernel
theorem dX7_work_135 : decode cX7_work 135 = .ok (.aload_n 0, 1) := by decide +kernel
theorem dX7_work_136 : decode cX7_work 136 = .ok (.aload_n 0, 1) := by decide +kernel
theorem dX7_work_137 : decode cX7_work 137 = .ok (.getfield 15, 3) := by decide +kernel
theorem dX7_work_140 : decode cX7_work 140 = .ok (.iconst 0, 1) := by decide +kernel
theorem dX7_work_141 : decode cX7_work 141 = .ok (.iload_n 3, 1) := by decide +kernel
theorem dX7_work_142 : decode cX7_work 142 = .ok (.iload 4, 2) := by decide +kernel
theorem dX7_work_144 : decode cX7_work 144 = .ok (.invokevirtual 28, 3) := by decide +kernel
theorem dX7_work_147 : decode cX7_work 147 = .ok (.iconst 2, 1) := by decide +kernel
theorem dX7_work_148 : decode cX7_work 148 = .ok (.imul, 1) := by decide +kernel
theorem dX7_work_149 : decode cX7_work 149 = .ok (.ireturn, 1) := by decide +kernel
theorem dX7_work_150 : decode cX7_work 150 = .ok (.iload_n 3, 1) := by decide +kernel
theorem dX7_work_151 : decode cX7_work 151 = .ok (.aload_n 0, 1) := by decide +kernel
theorem dX7_work_152 : decode cX7_work 152 = .ok (.getfield 22, 3) := by decide +kernel
theorem dX7_work_155 : decode cX7_work 155 = .ok (.isub, 1) := by decide +kernel
theorem dX7_work_156 : decode cX7_work 156 = .ok (.ireturn, 1) := by decide +kernel
theorem dX7_work_157 : decode cX7_work 157 = .ok (.aload_n 0, 1) := by decide +kernel
theorem dX7_work_158 : decode cX7_work 158 = .ok (.aload_n 0, 1) := by decide +kernel
theorem dX7_work_159 : decode cX7_work 159 = .ok (.getfield 15, 3) := by decide +kernel
theorem dX7_work_162 : decode cX7_work 162 = .ok (.iconst 1, 1) := by decide +kernel
theorem dX7_work_163 : decode cX7_work 163 = .ok (.iload_n 3, 1) := by decide +kernel
theorem dX7_work_164 : decode cX7_work 164 = .ok (.iload 4, 2) := by decide +kernel
theorem dX7_work_166 : decode cX7_work 166 = .ok (.invokevirtual 28, 3) := by decide +kernel
theorem dX7_work_169 : decode cX7_work 169 = .ok (.aload_n 0, 1) := by decide +kernel
theorem dX7_work_170 : decode cX7_work 170 = .ok (.aload_n 0, 1) := by decide +kernel
theorem dX7_work_171 : decode cX7_work 171 = .ok (.getfield 15, 3) := by decide +kernel
theorem dX7_work_174 : decode cX7_work 174 = .ok (.iconst 2, 1) := by decide +kernel
theorem dX7_work_175 : decode cX7_work 175 = .ok (.iload_n 3, 1) := by decide +kernel
theorem dX7_work_176 : decode cX7_work 176 = .ok (.iload 4, 2) := by decide +kernel
theorem dX7_work_178 : decode cX7_work 178 = .ok (.invokevirtual 28, 3) := by decide +kernel
theorem dX7_work_181 : decode cX7_work 181 = .ok (.ixor, 1) := by decide +kernel
theorem dX7_work_182 : decode cX7_work 182 = .ok (.ireturn, 1) := by decide +kernel
theorem dX7_work_183 : decode cX7_work 183 = .ok (.aload_n 0, 1) := by decide +kernel
theorem dX7_work_184 : decode cX7_work 184 = .ok (.iload_n 2, 1) := by decide +kernel
theorem dX7_work_185 : decode cX7_work 185 = .ok (.iconst 0, 1) := by decide +kernel
theorem dX7_work_186 : decode cX7_work 186 = .ok (.iload_n 3, 1) := by decide +kernel
theorem dX7_work_187 : decode cX7_work 187 = .ok (.iload 4, 2) := by decide +kernel
theorem dX7_work_189 : decode cX7_work 189 = .ok (.invokevirtual 28, 3) := by decide +kernel
theorem dX7_work_192 : decode cX7_work 192 = .ok (.iconst 3, 1) := by decide +kernel
theorem dX7_work_193 : decode cX7_work 193 = .ok (.imul, 1) := by decide +kernel
theorem dX7_work_194 : decode cX7_work 194 = .ok (.ireturn, 1) := by decide +kernel
theorem dX7_work_195 : decode cX7_work 195 = .ok (.aload_n 0, 1) := by decide +kernel
theorem dX7_work_196 : decode cX7_work 196 = .ok (.iload_n 2, 1) := by decide +kernel
theorem dX7_work_197 : decode cX7_work 197 = .ok (.iconst 1, 1) := by decide +kernel
theorem dX7_work_198 : decode cX7_work 198 = .ok (.iload_n 3, 1) := by decide +kernel
theorem dX7_work_199 : decode cX7_work 199 = .ok (.iload 4, 2) := by decide +kernel
theorem dX7_work_201 : decode cX7_work 201 = .ok (.invokevirtual 28, 3) := by decide +kernel
theorem dX7_work_204 : decode cX7_work 204 = .ok (.aload_n 0, 1) := by decide +kernel
theorem dX7_work_205 : decode cX7_work 205 = .ok (.aload_n 0, 1) := by decide +kernel
theorem dX7_work_206 : decode cX7_work 206 = .ok (.getfield 15, 3) := by decide +kernel
theorem dX7_work_209 : decode cX7_work 209 = .ok (.iconst 2, 1) := by decide +kernel
theorem dX7_work_210 : decode cX7_work 210 = .ok (.iconst 1, 1) := by decide +kernel
theorem dX7_work_211 : decode cX7_work 211 = .ok (.iload 4, 2) := by decide +kernel
theorem dX7_work_213 : decode cX7_work 213 = .ok (.invokevirtual 28, 3) := by decide +kernel
theorem dX7_work_216 : decode cX7_work 216 = .ok (.isub, 1) := by decide +kernel
theorem dX7_work_217 : decode cX7_work 217 = .ok (.ireturn, 1) := by decide +kernel
theorem dX7_work_218 : decode cX7_work 218 = .ok (.aload_n 0, 1) := by decide +kernel
theorem dX7_work_219 : decode cX7_work 219 = .ok (.iload_n 2, 1) := by decide +kernel
theorem dX7_work_220 : decode cX7_work 220 = .ok (.iconst 2, 1) := by decide +kernel
theorem dX7_work_221 : decode cX7_work 221 = .ok (.iload_n 3, 1) := by decide +kernel
theorem dX7_work_222 : decode cX7_work 222 = .ok (.iload 4, 2) := by decide +kernel
theorem dX7_work_224 : decode cX7_work 224 = .ok (.invokevirtual 28, 3) := by decide +kernel
theorem dX7_work_227 : decode cX7_work 227 = .ok (.ineg, 1) := by decide +kernel
theorem dX7_work_228 : decode cX7_work 228 = .ok (.ireturn, 1) := by decide +kernel
theorem dX7_work_229 : decode cX7_work 229 = .ok (.aload_n 0, 1) := by decide +kernel
theorem dX7_work_230 : decode cX7_work 230 = .ok (.iload_n 2, 1) := by decide +kernel
theorem dX7_work_231 : decode cX7_work 231 = .ok (.iconst 3, 1) := by decide +kernel
theorem dX7_work_232 : decode cX7_work 232 = .ok (.iload_n 3, 1) := by decide +kernel
theorem dX7_work_233 : decode cX7_work 233 = .ok (.iload 4, 2) := by decide +kernel
theorem dX7_work_235 : decode cX7_work 235 = .ok (.invokevirtual 28, 3) := by decide +kernel
theorem dX7_work_238 : decode cX7_work 238 = .ok (.aload_n 0, 1) := by decide +kernel
theorem dX7_work_239 : decode cX7_work 239 = .ok (.aload_n 0, 1) := by decide +kernel
theorem dX7_work_240 : decode cX7_work 240 = .ok (.getfield 15, 3) := by decide +kernel
theorem dX7_work_243 : decode cX7_work 243 = .ok (.iconst 0, 1) := by decide +kernel
theorem dX7_work_244 : decode cX7_work 244 = .ok (.iconst 2, 1) := by decide +kernel
theorem dX7_work_245 : decode cX7_work 245 = .ok (.iload 4, 2) := by decide +kernel
theorem dX7_work_247 : decode cX7_work 247 = .ok (.invokevirtual 28, 3) := by decide +kernel
theorem dX7_work_250 : decode cX7_work 250 = .ok (.isub, 1) := by decide +kernel
theorem dX7_work_251 : decode cX7_work 251 = .ok (.ireturn, 1) := by decide +kernel
theorem dX7_work_252 : decode cX7_work 252 = .ok (.aload_n 0, 1) := by decide +kernel
theorem dX7_work_253 : decode cX7_work 253 = .ok (.iload_n 2, 1) := by decide +kernel
theorem dX7_work_254 : decode cX7_work 254 = .ok (.iconst 1, 1) := by decide +kernel
theorem dX7_work_255 : decode cX7_work 255 = .ok (.iload_n 3, 1) := by decide +kernel
theorem dX7_work_256 : decode cX7_work 256 = .ok (.iconst 1, 1) := by decide +kernel
theorem dX7_work_257 : decode cX7_work 257 = .ok (.iadd, 1) := by decide +kernel
theorem dX7_work_258 : decode cX7_work 258 = .ok (.iload 4, 2) := by decide +kernel
theorem dX7_work_260 : decode cX7_work 260 = .ok (.invokevirtual 28, 3) := by decide +kernel
theorem dX7_work_263 : decode cX7_work 263 = .ok (.ireturn, 1) := by decide +kernel
theorem dX7_work_264 : decode cX7_work 264 = .ok (.aload_n 0, 1) := by decide +kernel
theorem dX7_work_265 : decode cX7_work 265 = .ok (.iload_n 2, 1) := by decide +kernel
theorem dX7_work_266 : decode cX7_work 266 = .ok (.iconst 2, 1) := by decide +kernel
theorem dX7_work_267 : decode cX7_work 267 = .ok (.iload_n 3, 1) := by decide +kernel
theorem dX7_work_268 : decode cX7_work 268 = .ok (.iload 4, 2) := by decide +kernel
theorem dX7_work_270 : decode cX7_work 270 = .ok (.invokevirtual 28, 3) := by decide +kernel
theorem dX7_work_273 : decode cX7_work 273 = .ok (.aload_n 0, 1) := by decide +kernel
theorem dX7_work_274 : decode cX7_work 274 = .ok (.getfield 19, 3) := by decide +kernel
theorem dX7_work_277 : decode cX7_work 277 = .ok (.ixor, 1) := by decide +kernel
theorem dX7_work_278 : decode cX7_work 278 = .ok (.ireturn, 1) := by decide +kernel
theorem dX7_work_279 : decode cX7_work 279 = .ok (.aload_n 0, 1) := by decide +kernel
theorem dX7_work_280 : decode cX7_work 280 = .ok (.aload_n 0, 1) := by decide +kernel
theorem dX7_work_281 : decode cX7_work 281 = .ok (.getfield 15, 3) := by decide +kernel
theorem dX7_work_284 : decode cX7_work 284 = .ok (.iconst 1, 1) := by decide +kernel
theorem dX7_work_285 : decode cX7_work 285 = .ok (.iload_n 3, 1) := by decide +kernel
theorem dX7_work_286 : decode cX7_work 286 = .ok (.iload 4, 2) := by decide +kernel
theorem dX7_work_288 : decode cX7_work 288 = .ok (.invokevirtual 28, 3) := by decide +kernel
theorem dX7_work_291 : decode cX7_work 291 = .ok (.aload_n 0, 1) := by decide +kernel
theorem dX7_work_292 : decode cX7_work 292 = .ok (.iload_n 2, 1) := by decide +kernel
theorem dX7_work_293 : decode cX7_work 293 = .ok (.iconst 3, 1) := by decide +kernel
theorem dX7_work_294 : decode cX7_work 294 = .ok (.iload_n 3, 1) := by decide +kernel
theorem dX7_work_295 : decode cX7_work 295 = .ok (.iload 4, 2) := by decide +kernel
theorem dX7_work_297 : decode cX7_work 297 = .ok (.invokevirtual 28, 3) := by decide +kernel
theorem dX7_work_300 : decode cX7_work 300 = .ok (.isub, 1) := by decide +kernel
theorem dX7_work_301 : decode cX7_work 301 = .ok (.ireturn, 1) := by decide +kernel
theorem dX7_work_302 : decode cX7_work 302 = .ok (.iconst 0, 1) := by decide +kernel
theorem dX7_work_303 : decode cX7_work 303 = .ok (.ireturn, 1) := by decide +kernel
