set_option maxRecDepth 20000 in
theorem ggL_isRefused_L_near : GoodIn wsL_isRefused wsL_near := goodIn_ca (goodIn_ca (goodIn_r _ [139, 79, 80, 140, 141, 142, 14, 143, 16, 23, 24, 25, 26, 27, 28, 29, 144, 145, 146, 147, 148, 149, 150, 151, 152, 153, 154, 155, 156, 157, 158, 159, 160, 161, 162, 163, 164, 121, 122, 75, 165, 166, 167, 168, 169, 170, 171, 172, 173, 174, 175, 176, 177, 178, 43, 179, 180, 181, 182, 183, 107, 184, 185, 45, 128, 186, 187, 188, 189, 190, 191, 192, 193, 194, 195, 196, 197, 114, 115, 33, 116, 35, 63, 64, 65, 198, 130, 131, 132, 199, 200, 201, 202, 203, 109, 110, 111, 112, 204, 205, 206, 207, 71, 72, 73, 74, 66, 67, 68, 69, 70, 208, 209, 210, 211, 50, 123, 212, 100, 101, 102, 87, 88, 89, 46, 47, 48, 49, 30, 31, 32, 34, 51, 52, 53, 54, 21, 22, 55, 56, 57, 58, 59, 60, 61, 62, 213, 214, 215, 216, 217, 218, 219, 220, 221, 222, 223, 224, 225, 226, 227, 228, 229, 230, 231, 232, 233, 234, 235, 236, 237, 238, 239, 240, 241, 242, 243, 244, 245, 246, 247, 248, 249, 250, 251] (by decide +kernel) (by decide +kernel)) (goodIn_sub (fun _ h => List.mem_cons_of_mem _ (List.mem_append_left _ (List.mem_append_right _ h))) (by decide +kernel))) (goodIn_sub (fun _ h => List.mem_cons_of_mem _ (List.mem_append_right _ h)) (by decide +kernel))
set_option maxRecDepth 20000 in
theorem gL_isRefused_L_near : GoodIn wsL_isRefused (va_wsS RL 95 yL_near wsL_near) := goodIn_app (goodIn_of _ (by decide +kernel)) ggL_isRefused_L_near
set_option maxRecDepth 20000 in
theorem ggL_isRefused_X3_today : GoodIn wsL_isRefused wsX3_today := goodIn_r _ [15, 16, 230, 231] (by decide +kernel) (by decide +kernel)
set_option maxRecDepth 20000 in
theorem gL_isRefused_X3_today : GoodIn wsL_isRefused (wsV RL 67 RX3 yX3_today wsX3_today) := goodIn_app (goodIn_of _ (by decide +kernel)) ggL_isRefused_X3_today
theorem dL_isRefused_0 : decode cL_isRefused 0 = .ok (.iload_n 3, 1) := by decide +kernel
theorem dL_isRefused_1 : decode cL_isRefused 1 = .ok (.iconst 2, 1) := by decide +kernel
theorem dL_isRefused_2 : decode cL_isRefused 2 = .ok (.irem, 1) := by decide +kernel
theorem dL_isRefused_3 : decode cL_isRefused 3 = .ok (.ifCond .ne 7, 3) := by decide +kernel
theorem dL_isRefused_6 : decode cL_isRefused 6 = .ok (.iconst 1, 1) := by decide +kernel
theorem dL_isRefused_7 : decode cL_isRefused 7 = .ok (.goto 4, 3) := by decide +kernel
theorem dL_isRefused_10 : decode cL_isRefused 10 = .ok (.iconst 0, 1) := by decide +kernel
theorem dL_isRefused_11 : decode cL_isRefused 11 = .ok (.istore 4, 2) := by decide +kernel
theorem dL_isRefused_13 : decode cL_isRefused 13 = .ok (.iload 4, 2) := by decide +kernel
theorem dL_isRefused_15 : decode cL_isRefused 15 = .ok (.ifCond .eq 12, 3) := by decide +kernel
theorem dL_isRefused_18 : decode cL_isRefused 18 = .ok (.iconst (-1), 1) := by decide +kernel
theorem dL_isRefused_19 : decode cL_isRefused 19 = .ok (.iload_n 3, 1) := by decide +kernel
theorem dL_isRefused_20 : decode cL_isRefused 20 = .ok (.bipush 30, 2) := by decide +kernel
theorem dL_isRefused_22 : decode cL_isRefused 22 = .ok (.irem, 1) := by decide +kernel
theorem dL_isRefused_23 : decode cL_isRefused 23 = .ok (.isub, 1) := by decide +kernel
theorem dL_isRefused_24 : decode cL_isRefused 24 = .ok (.goto 9, 3) := by decide +kernel
theorem dL_isRefused_27 : decode cL_isRefused 27 = .ok (.iconst 4, 1) := by decide +kernel
theorem dL_isRefused_28 : decode cL_isRefused 28 = .ok (.iload_n 3, 1) := by decide +kernel
theorem dL_isRefused_29 : decode cL_isRefused 29 = .ok (.bipush 30, 2) := by decide +kernel
theorem dL_isRefused_31 : decode cL_isRefused 31 = .ok (.irem, 1) := by decide +kernel
theorem dL_isRefused_32 : decode cL_isRefused 32 = .ok (.iadd, 1) := by decide +kernel
theorem dL_isRefused_33 : decode cL_isRefused 33 = .ok (.istore 5, 2) := by decide +kernel
theorem dL_isRefused_35 : decode cL_isRefused 35 = .ok (.iload 4, 2) := by decide +kernel
theorem dL_isRefused_37 : decode cL_isRefused 37 = .ok (.ifCond .eq 12, 3) := by decide +kernel
theorem dL_isRefused_40 : decode cL_isRefused 40 = .ok (.iconst (-1), 1) := by decide +kernel
theorem dL_isRefused_41 : decode cL_isRefused 41 = .ok (.iload_n 3, 1) := by decide +kernel
theorem dL_isRefused_42 : decode cL_isRefused 42 = .ok (.bipush 30, 2) := by decide +kernel
theorem dL_isRefused_44 : decode cL_isRefused 44 = .ok (.irem, 1) := by decide +kernel
theorem dL_isRefused_45 : decode cL_isRefused 45 = .ok (.isub, 1) := by decide +kernel
theorem dL_isRefused_46 : decode cL_isRefused 46 = .ok (.goto 10, 3) := by decide +kernel
theorem dL_isRefused_49 : decode cL_isRefused 49 = .ok (.bipush 20, 2) := by decide +kernel
theorem dL_isRefused_51 : decode cL_isRefused 51 = .ok (.iload_n 3, 1) := by decide +kernel
theorem dL_isRefused_52 : decode cL_isRefused 52 = .ok (.bipush 30, 2) := by decide +kernel
theorem dL_isRefused_54 : decode cL_isRefused 54 = .ok (.irem, 1) := by decide +kernel
theorem dL_isRefused_55 : decode cL_isRefused 55 = .ok (.iadd, 1) := by decide +kernel
theorem dL_isRefused_56 : decode cL_isRefused 56 = .ok (.istore 6, 2) := by decide +kernel
theorem dL_isRefused_58 : decode cL_isRefused 58 = .ok (.iload_n 3, 1) := by decide +kernel
theorem dL_isRefused_59 : decode cL_isRefused 59 = .ok (.iconst 2, 1) := by decide +kernel
theorem dL_isRefused_60 : decode cL_isRefused 60 = .ok (.idiv, 1) := by decide +kernel
theorem dL_isRefused_61 : decode cL_isRefused 61 = .ok (.iconst 3, 1) := by decide +kernel
theorem dL_isRefused_62 : decode cL_isRefused 62 = .ok (.irem, 1) := by decide +kernel
theorem dL_isRefused_63 : decode cL_isRefused 63 = .ok (.istore 7, 2) := by decide +kernel
theorem dL_isRefused_65 : decode cL_isRefused 65 = .ok (.aload_n 0, 1) := by decide +kernel
theorem dL_isRefused_66 : decode cL_isRefused 66 = .ok (.invokestatic 88, 3) := by decide +kernel
theorem dL_isRefused_69 : decode cL_isRefused 69 = .ok (.lstore 8, 2) := by decide +kernel
theorem dL_isRefused_71 : decode cL_isRefused 71 = .ok (.aload_n 0, 1) := by decide +kernel
theorem dL_isRefused_72 : decode cL_isRefused 72 = .ok (.iconst 0, 1) := by decide +kernel
theorem dL_isRefused_73 : decode cL_isRefused 73 = .ok (.iload 5, 2) := by decide +kernel
theorem dL_isRefused_75 : decode cL_isRefused 75 = .ok (.iconst 1, 1) := by decide +kernel
theorem dL_isRefused_76 : decode cL_isRefused 76 = .ok (.iconst 0, 1) := by decide +kernel
theorem dL_isRefused_77 : decode cL_isRefused 77 = .ok (.iconst 0, 1) := by decide +kernel
theorem dL_isRefused_78 : decode cL_isRefused 78 = .ok (.invokestatic 92, 3) := by decide +kernel
theorem dL_isRefused_81 : decode cL_isRefused 81 = .ok (.sipush (-992), 3) := by decide +kernel
theorem dL_isRefused_84 : decode cL_isRefused 84 = .ok (.if_icmp .ne 285, 3) := by decide +kernel
theorem dL_isRefused_87 : decode cL_isRefused 87 = .ok (.aload_n 0, 1) := by decide +kernel
theorem dL_isRefused_88 : decode cL_isRefused 88 = .ok (.iconst 0, 1) := by decide +kernel
theorem dL_isRefused_89 : decode cL_isRefused 89 = .ok (.iload 7, 2) := by decide +kernel
theorem dL_isRefused_91 : decode cL_isRefused 91 = .ok (.iload 4, 2) := by decide +kernel
theorem dL_isRefused_93 : decode cL_isRefused 93 = .ok (.ifCond .eq 7, 3) := by decide +kernel
theorem dL_isRefused_96 : decode cL_isRefused 96 = .ok (.iconst 0, 1) := by decide +kernel
theorem dL_isRefused_97 : decode cL_isRefused 97 = .ok (.goto 5, 3) := by decide +kernel
theorem dL_isRefused_100 : decode cL_isRefused 100 = .ok (.bipush 31, 2) := by decide +kernel
theorem dL_isRefused_102 : decode cL_isRefused 102 = .ok (.iconst 0, 1) := by decide +kernel
theorem dL_isRefused_103 : decode cL_isRefused 103 = .ok (.iconst 0, 1) := by decide +kernel
theorem dL_isRefused_104 : decode cL_isRefused 104 = .ok (.invokestatic 92, 3) := by decide +kernel
theorem dL_isRefused_107 : decode cL_isRefused 107 = .ok (.sipush (-992), 3) := by decide +kernel
theorem dL_isRefused_110 : decode cL_isRefused 110 = .ok (.if_icmp .ne 259, 3) := by decide +kernel
theorem dL_isRefused_113 : decode cL_isRefused 113 = .ok (.aload_n 0, 1) := by decide +kernel
theorem dL_isRefused_114 : decode cL_isRefused 114 = .ok (.iconst 0, 1) := by decide +kernel
theorem dL_isRefused_115 : decode cL_isRefused 115 = .ok (.iload 7, 2) := by decide +kernel
theorem dL_isRefused_117 : decode cL_isRefused 117 = .ok (.iconst 1, 1) := by decide +kernel
theorem dL_isRefused_118 : decode cL_isRefused 118 = .ok (.iload 4, 2) := by decide +kernel
theorem dL_isRefused_120 : decode cL_isRefused 120 = .ok (.ifCond .eq 7, 3) := by decide +kernel
theorem dL_isRefused_123 : decode cL_isRefused 123 = .ok (.iconst (-1), 1) := by decide +kernel
theorem dL_isRefused_124 : decode cL_isRefused 124 = .ok (.goto 4, 3) := by decide +kernel
theorem dL_isRefused_127 : decode cL_isRefused 127 = .ok (.iconst 3, 1) := by decide +kernel
theorem dL_isRefused_128 : decode cL_isRefused 128 = .ok (.iconst 0, 1) := by decide +kernel
theorem dL_isRefused_129 : decode cL_isRefused 129 = .ok (.invokestatic 92, 3) := by decide +kernel
theorem dL_isRefused_132 : decode cL_isRefused 132 = .ok (.sipush (-992), 3) := by decide +kernel
theorem dL_isRefused_135 : decode cL_isRefused 135 = .ok (.if_icmp .ne 234, 3) := by decide +kernel
theorem dL_isRefused_138 : decode cL_isRefused 138 = .ok (.aload_n 0, 1) := by decide +kernel
theorem dL_isRefused_139 : decode cL_isRefused 139 = .ok (.iconst 1, 1) := by decide +kernel
theorem dL_isRefused_140 : decode cL_isRefused 140 = .ok (.iload 5, 2) := by decide +kernel
theorem dL_isRefused_142 : decode cL_isRefused 142 = .ok (.iconst 0, 1) := by decide +kernel
theorem dL_isRefused_143 : decode cL_isRefused 143 = .ok (.iconst 0, 1) := by decide +kernel
theorem dL_isRefused_144 : decode cL_isRefused 144 = .ok (.iconst 0, 1) := by decide +kernel
theorem dL_isRefused_145 : decode cL_isRefused 145 = .ok (.invokestatic 92, 3) := by decide +kernel
theorem dL_isRefused_148 : decode cL_isRefused 148 = .ok (.sipush (-992), 3) := by decide +kernel
theorem dL_isRefused_151 : decode cL_isRefused 151 = .ok (.if_icmp .ne 218, 3) := by decide +kernel
theorem dL_isRefused_154 : decode cL_isRefused 154 = .ok (.aload_n 0, 1) := by decide +kernel
theorem dL_isRefused_155 : decode cL_isRefused 155 = .ok (.iconst 1, 1) := by decide +kernel
theorem dL_isRefused_156 : decode cL_isRefused 156 = .ok (.iload 7, 2) := by decide +kernel
theorem dL_isRefused_158 : decode cL_isRefused 158 = .ok (.iload 6, 2) := by decide +kernel
theorem dL_isRefused_160 : decode cL_isRefused 160 = .ok (.iconst 0, 1) := by decide +kernel
theorem dL_isRefused_161 : decode cL_isRefused 161 = .ok (.iconst 0, 1) := by decide +kernel
theorem dL_isRefused_162 : decode cL_isRefused 162 = .ok (.invokestatic 92, 3) := by decide +kernel
theorem dL_isRefused_165 : decode cL_isRefused 165 = .ok (.sipush (-992), 3) := by decide +kernel
theorem dL_isRefused_168 : decode cL_isRefused 168 = .ok (.if_icmp .ne 201, 3) := by decide +kernel
theorem dL_isRefused_171 : decode cL_isRefused 171 = .ok (.aload_n 0, 1) := by decide +kernel
theorem dL_isRefused_172 : decode cL_isRefused 172 = .ok (.iconst 1, 1) := by decide +kernel
theorem dL_isRefused_173 : decode cL_isRefused 173 = .ok (.iload 7, 2) := by decide +kernel
theorem dL_isRefused_175 : decode cL_isRefused 175 = .ok (.iconst 0, 1) := by decide +kernel
theorem dL_isRefused_176 : decode cL_isRefused 176 = .ok (.iload 4, 2) := by decide +kernel
theorem dL_isRefused_178 : decode cL_isRefused 178 = .ok (.ifCond .eq 7, 3) := by decide +kernel
theorem dL_isRefused_181 : decode cL_isRefused 181 = .ok (.iconst (-1), 1) := by decide +kernel
theorem dL_isRefused_182 : decode cL_isRefused 182 = .ok (.goto 5, 3) := by decide +kernel
theorem dL_isRefused_185 : decode cL_isRefused 185 = .ok (.bipush 10, 2) := by decide +kernel
theorem dL_isRefused_187 : decode cL_isRefused 187 = .ok (.iconst 0, 1) := by decide +kernel
theorem dL_isRefused_188 : decode cL_isRefused 188 = .ok (.invokestatic 92, 3) := by decide +kernel
theorem dL_isRefused_191 : decode cL_isRefused 191 = .ok (.sipush (-992), 3) := by decide +kernel
theorem dL_isRefused_194 : decode cL_isRefused 194 = .ok (.if_icmp .ne 175, 3) := by decide +kernel
theorem dL_isRefused_197 : decode cL_isRefused 197 = .ok (.aload_n 0, 1) := by decide +kernel
theorem dL_isRefused_198 : decode cL_isRefused 198 = .ok (.iconst 1, 1) := by decide +kernel
theorem dL_isRefused_199 : decode cL_isRefused 199 = .ok (.iload 7, 2) := by decide +kernel
theorem dL_isRefused_201 : decode cL_isRefused 201 = .ok (.iconst 0, 1) := by decide +kernel
theorem dL_isRefused_202 : decode cL_isRefused 202 = .ok (.iconst 0, 1) := by decide +kernel
theorem dL_isRefused_203 : decode cL_isRefused 203 = .ok (.iload 4, 2) := by decide +kernel
theorem dL_isRefused_205 : decode cL_isRefused 205 = .ok (.ifCond .eq 7, 3) := by decide +kernel
theorem dL_isRefused_208 : decode cL_isRefused 208 = .ok (.iconst (-1), 1) := by decide +kernel
theorem dL_isRefused_209 : decode cL_isRefused 209 = .ok (.goto 6, 3) := by decide +kernel
theorem dL_isRefused_212 : decode cL_isRefused 212 = .ok (.sipush 1001, 3) := by decide +kernel
theorem dL_isRefused_215 : decode cL_isRefused 215 = .ok (.invokestatic 92, 3) := by decide +kernel
theorem dL_isRefused_218 : decode cL_isRefused 218 = .ok (.sipush (-992), 3) := by decide +kernel
theorem dL_isRefused_221 : decode cL_isRefused 221 = .ok (.if_icmp .ne 148, 3) := by decide +kernel
theorem dL_isRefused_224 : decode cL_isRefused 224 = .ok (.aload_n 0, 1) := by decide +kernel
theorem dL_isRefused_225 : decode cL_isRefused 225 = .ok (.iconst 2, 1) := by decide +kernel
theorem dL_isRefused_226 : decode cL_isRefused 226 = .ok (.iload 5, 2) := by decide +kernel
theorem dL_isRefused_228 : decode cL_isRefused 228 = .ok (.iconst 0, 1) := by decide +kernel
theorem dL_isRefused_229 : decode cL_isRefused 229 = .ok (.iconst 0, 1) := by decide +kernel
theorem dL_isRefused_230 : decode cL_isRefused 230 = .ok (.iconst 0, 1) := by decide +kernel
theorem dL_isRefused_231 : decode cL_isRefused 231 = .ok (.invokestatic 92, 3) := by decide +kernel
theorem dL_isRefused_234 : decode cL_isRefused 234 = .ok (.sipush (-992), 3) := by decide +kernel
theorem dL_isRefused_237 : decode cL_isRefused 237 = .ok (.if_icmp .ne 132, 3) := by decide +kernel
theorem dL_isRefused_240 : decode cL_isRefused 240 = .ok (.aload_n 0, 1) := by decide +kernel
theorem dL_isRefused_241 : decode cL_isRefused 241 = .ok (.iconst 2, 1) := by decide +kernel
theorem dL_isRefused_242 : decode cL_isRefused 242 = .ok (.iload 7, 2) := by decide +kernel
theorem dL_isRefused_244 : decode cL_isRefused 244 = .ok (.iload 6, 2) := by decide +kernel
theorem dL_isRefused_246 : decode cL_isRefused 246 = .ok (.iconst 0, 1) := by decide +kernel
theorem dL_isRefused_247 : decode cL_isRefused 247 = .ok (.iconst 0, 1) := by decide +kernel
theorem dL_isRefused_248 : decode cL_isRefused 248 = .ok (.invokestatic 92, 3) := by decide +kernel
theorem dL_isRefused_251 : decode cL_isRefused 251 = .ok (.sipush (-992), 3) := by decide +kernel
theorem dL_isRefused_254 : decode cL_isRefused 254 = .ok (.if_icmp .ne 115, 3) := by decide +kernel
theorem dL_isRefused_257 : decode cL_isRefused 257 = .ok (.aload_n 0, 1) := by decide +kernel
theorem dL_isRefused_258 : decode cL_isRefused 258 = .ok (.iconst 3, 1) := by decide +kernel
theorem dL_isRefused_259 : decode cL_isRefused 259 = .ok (.iload 4, 2) := by decide +kernel
theorem dL_isRefused_261 : decode cL_isRefused 261 = .ok (.ifCond .eq 12, 3) := by decide +kernel
theorem dL_isRefused_264 : decode cL_isRefused 264 = .ok (.iconst 0, 1) := by decide +kernel
theorem dL_isRefused_265 : decode cL_isRefused 265 = .ok (.iload_n 3, 1) := by decide +kernel
theorem dL_isRefused_266 : decode cL_isRefused 266 = .ok (.bipush 30, 2) := by decide +kernel
theorem dL_isRefused_268 : decode cL_isRefused 268 = .ok (.irem, 1) := by decide +kernel
theorem dL_isRefused_269 : decode cL_isRefused 269 = .ok (.isub, 1) := by decide +kernel
theorem dL_isRefused_270 : decode cL_isRefused 270 = .ok (.goto 10, 3) := by decide +kernel
theorem dL_isRefused_273 : decode cL_isRefused 273 = .ok (.bipush 101, 2) := by decide +kernel
theorem dL_isRefused_275 : decode cL_isRefused 275 = .ok (.iload_n 3, 1) := by decide +kernel
theorem dL_isRefused_276 : decode cL_isRefused 276 = .ok (.bipush 30, 2) := by decide +kernel
theorem dL_isRefused_278 : decode cL_isRefused 278 = .ok (.irem, 1) := by decide +kernel
theorem dL_isRefused_279 : decode cL_isRefused 279 = .ok (.iadd, 1) := by decide +kernel
theorem dL_isRefused_280 : decode cL_isRefused 280 = .ok (.iconst 0, 1) := by decide +kernel
theorem dL_isRefused_281 : decode cL_isRefused 281 = .ok (.iconst 0, 1) := by decide +kernel
theorem dL_isRefused_282 : decode cL_isRefused 282 = .ok (.iconst 0, 1) := by decide +kernel
theorem dL_isRefused_283 : decode cL_isRefused 283 = .ok (.invokestatic 92, 3) := by decide +kernel
theorem dL_isRefused_286 : decode cL_isRefused 286 = .ok (.sipush (-992), 3) := by decide +kernel
theorem dL_isRefused_289 : decode cL_isRefused 289 = .ok (.if_icmp .ne 80, 3) := by decide +kernel
theorem dL_isRefused_292 : decode cL_isRefused 292 = .ok (.aload_n 0, 1) := by decide +kernel
theorem dL_isRefused_293 : decode cL_isRefused 293 = .ok (.iconst 4, 1) := by decide +kernel
theorem dL_isRefused_294 : decode cL_isRefused 294 = .ok (.iload 5, 2) := by decide +kernel
theorem dL_isRefused_296 : decode cL_isRefused 296 = .ok (.iconst 0, 1) := by decide +kernel
theorem dL_isRefused_297 : decode cL_isRefused 297 = .ok (.iconst 0, 1) := by decide +kernel
theorem dL_isRefused_298 : decode cL_isRefused 298 = .ok (.iconst 0, 1) := by decide +kernel
theorem dL_isRefused_299 : decode cL_isRefused 299 = .ok (.invokestatic 92, 3) := by decide +kernel
theorem dL_isRefused_302 : decode cL_isRefused 302 = .ok (.sipush (-992), 3) := by decide +kernel
theorem dL_isRefused_305 : decode cL_isRefused 305 = .ok (.if_icmp .ne 64, 3) := by decide +kernel
theorem dL_isRefused_308 : decode cL_isRefused 308 = .ok (.aload_n 0, 1) := by decide +kernel
theorem dL_isRefused_309 : decode cL_isRefused 309 = .ok (.iconst 5, 1) := by decide +kernel
theorem dL_isRefused_310 : decode cL_isRefused 310 = .ok (.iload 5, 2) := by decide +kernel
theorem dL_isRefused_312 : decode cL_isRefused 312 = .ok (.iconst 0, 1) := by decide +kernel
theorem dL_isRefused_313 : decode cL_isRefused 313 = .ok (.iconst 0, 1) := by decide +kernel
theorem dL_isRefused_314 : decode cL_isRefused 314 = .ok (.iconst 0, 1) := by decide +kernel
theorem dL_isRefused_315 : decode cL_isRefused 315 = .ok (.invokestatic 92, 3) := by decide +kernel
theorem dL_isRefused_318 : decode cL_isRefused 318 = .ok (.sipush (-992), 3) := by decide +kernel
theorem dL_isRefused_321 : decode cL_isRefused 321 = .ok (.if_icmp .ne 48, 3) := by decide +kernel
theorem dL_isRefused_324 : decode cL_isRefused 324 = .ok (.aload_n 0, 1) := by decide +kernel
theorem dL_isRefused_325 : decode cL_isRefused 325 = .ok (.iconst 4, 1) := by decide +kernel
theorem dL_isRefused_326 : decode cL_isRefused 326 = .ok (.iload 7, 2) := by decide +kernel
theorem dL_isRefused_328 : decode cL_isRefused 328 = .ok (.iload 6, 2) := by decide +kernel
theorem dL_isRefused_330 : decode cL_isRefused 330 = .ok (.invokestatic 95, 3) := by decide +kernel
theorem dL_isRefused_333 : decode cL_isRefused 333 = .ok (.sipush (-992), 3) := by decide +kernel
theorem dL_isRefused_336 : decode cL_isRefused 336 = .ok (.if_icmp .ne 33, 3) := by decide +kernel
theorem dL_isRefused_339 : decode cL_isRefused 339 = .ok (.aload_n 0, 1) := by decide +kernel
theorem dL_isRefused_340 : decode cL_isRefused 340 = .ok (.invokevirtual 67, 3) := by decide +kernel
theorem dL_isRefused_343 : decode cL_isRefused 343 = .ok (.sipush 4901, 3) := by decide +kernel
theorem dL_isRefused_346 : decode cL_isRefused 346 = .ok (.if_icmp .lt 19, 3) := by decide +kernel
theorem dL_isRefused_349 : decode cL_isRefused 349 = .ok (.aload_n 0, 1) := by decide +kernel
theorem dL_isRefused_350 : decode cL_isRefused 350 = .ok (.iconst 3, 1) := by decide +kernel
theorem dL_isRefused_351 : decode cL_isRefused 351 = .ok (.bipush 100, 2) := by decide +kernel
theorem dL_isRefused_353 : decode cL_isRefused 353 = .ok (.iconst 0, 1) := by decide +kernel
theorem dL_isRefused_354 : decode cL_isRefused 354 = .ok (.iconst 0, 1) := by decide +kernel
theorem dL_isRefused_355 : decode cL_isRefused 355 = .ok (.iconst 0, 1) := by decide +kernel
theorem dL_isRefused_356 : decode cL_isRefused 356 = .ok (.invokestatic 92, 3) := by decide +kernel
theorem dL_isRefused_359 : decode cL_isRefused 359 = .ok (.sipush (-993), 3) := by decide +kernel
theorem dL_isRefused_362 : decode cL_isRefused 362 = .ok (.if_icmp .ne 7, 3) := by decide +kernel
theorem dL_isRefused_365 : decode cL_isRefused 365 = .ok (.iconst 1, 1) := by decide +kernel
theorem dL_isRefused_366 : decode cL_isRefused 366 = .ok (.goto 4, 3) := by decide +kernel
theorem dL_isRefused_369 : decode cL_isRefused 369 = .ok (.iconst 0, 1) := by decide +kernel
theorem dL_isRefused_370 : decode cL_isRefused 370 = .ok (.istore 10, 2) := by decide +kernel
theorem dL_isRefused_372 : decode cL_isRefused 372 = .ok (.iconst 0, 1) := by decide +kernel
theorem dL_isRefused_373 : decode cL_isRefused 373 = .ok (.istore 11, 2) := by decide +kernel
theorem dL_isRefused_375 : decode cL_isRefused 375 = .ok (.iload 11, 2) := by decide +kernel
theorem dL_isRefused_377 : decode cL_isRefused 377 = .ok (.bipush 9, 2) := by decide +kernel
theorem dL_isRefused_379 : decode cL_isRefused 379 = .ok (.if_icmp .ge 67, 3) := by decide +kernel
theorem dL_isRefused_382 : decode cL_isRefused 382 = .ok (.iload 10, 2) := by decide +kernel
theorem dL_isRefused_384 : decode cL_isRefused 384 = .ok (.ifCond .eq 62, 3) := by decide +kernel
theorem dL_isRefused_387 : decode cL_isRefused 387 = .ok (.aload_n 0, 1) := by decide +kernel
theorem dL_isRefused_388 : decode cL_isRefused 388 = .ok (.iload 11, 2) := by decide +kernel
theorem dL_isRefused_390 : decode cL_isRefused 390 = .ok (.iload 11, 2) := by decide +kernel
theorem dL_isRefused_392 : decode cL_isRefused 392 = .ok (.bipush 6, 2) := by decide +kernel
theorem dL_isRefused_394 : decode cL_isRefused 394 = .ok (.if_icmp .le 27, 3) := by decide +kernel
theorem dL_isRefused_397 : decode cL_isRefused 397 = .ok (.iload 4, 2) := by decide +kernel
theorem dL_isRefused_399 : decode cL_isRefused 399 = .ok (.ifCond .eq 12, 3) := by decide +kernel
theorem dL_isRefused_402 : decode cL_isRefused 402 = .ok (.iconst (-1), 1) := by decide +kernel
theorem dL_isRefused_403 : decode cL_isRefused 403 = .ok (.iload_n 3, 1) := by decide +kernel
theorem dL_isRefused_404 : decode cL_isRefused 404 = .ok (.bipush 30, 2) := by decide +kernel
theorem dL_isRefused_406 : decode cL_isRefused 406 = .ok (.irem, 1) := by decide +kernel
theorem dL_isRefused_407 : decode cL_isRefused 407 = .ok (.isub, 1) := by decide +kernel
theorem dL_isRefused_408 : decode cL_isRefused 408 = .ok (.goto 15, 3) := by decide +kernel
theorem dL_isRefused_411 : decode cL_isRefused 411 = .ok (.bipush 10, 2) := by decide +kernel
theorem dL_isRefused_413 : decode cL_isRefused 413 = .ok (.iload_n 3, 1) := by decide +kernel
theorem dL_isRefused_414 : decode cL_isRefused 414 = .ok (.bipush 30, 2) := by decide +kernel
theorem dL_isRefused_416 : decode cL_isRefused 416 = .ok (.irem, 1) := by decide +kernel
theorem dL_isRefused_417 : decode cL_isRefused 417 = .ok (.iadd, 1) := by decide +kernel
theorem dL_isRefused_418 : decode cL_isRefused 418 = .ok (.goto 5, 3) := by decide +kernel
theorem dL_isRefused_421 : decode cL_isRefused 421 = .ok (.iload 5, 2) := by decide +kernel
theorem dL_isRefused_423 : decode cL_isRefused 423 = .ok (.iconst 0, 1) := by decide +kernel
theorem dL_isRefused_424 : decode cL_isRefused 424 = .ok (.invokestatic 95, 3) := by decide +kernel
theorem dL_isRefused_427 : decode cL_isRefused 427 = .ok (.sipush (-992), 3) := by decide +kernel
theorem dL_isRefused_430 : decode cL_isRefused 430 = .ok (.if_icmp .ne 7, 3) := by decide +kernel
theorem dL_isRefused_433 : decode cL_isRefused 433 = .ok (.iconst 1, 1) := by decide +kernel
theorem dL_isRefused_434 : decode cL_isRefused 434 = .ok (.goto 4, 3) := by decide +kernel
theorem dL_isRefused_437 : decode cL_isRefused 437 = .ok (.iconst 0, 1) := by decide +kernel
theorem dL_isRefused_438 : decode cL_isRefused 438 = .ok (.istore 10, 2) := by decide +kernel
theorem dL_isRefused_440 : decode cL_isRefused 440 = .ok (.iinc 11 1, 3) := by decide +kernel
theorem dL_isRefused_443 : decode cL_isRefused 443 = .ok (.goto (-68), 3) := by decide +kernel
theorem dL_isRefused_446 : decode cL_isRefused 446 = .ok (.bipush 20, 2) := by decide +kernel
theorem dL_isRefused_448 : decode cL_isRefused 448 = .ok (.iload 7, 2) := by decide +kernel
theorem dL_isRefused_450 : decode cL_isRefused 450 = .ok (.imul, 1) := by decide +kernel
theorem dL_isRefused_451 : decode cL_isRefused 451 = .ok (.istore 11, 2) := by decide +kernel
theorem dL_isRefused_453 : decode cL_isRefused 453 = .ok (.iload 11, 2) := by decide +kernel
theorem dL_isRefused_455 : decode cL_isRefused 455 = .ok (.bipush 20, 2) := by decide +kernel
theorem dL_isRefused_457 : decode cL_isRefused 457 = .ok (.iload 7, 2) := by decide +kernel
theorem dL_isRefused_459 : decode cL_isRefused 459 = .ok (.imul, 1) := by decide +kernel
theorem dL_isRefused_460 : decode cL_isRefused 460 = .ok (.bipush 20, 2) := by decide +kernel
theorem dL_isRefused_462 : decode cL_isRefused 462 = .ok (.iadd, 1) := by decide +kernel
theorem dL_isRefused_463 : decode cL_isRefused 463 = .ok (.if_icmp .ge 48, 3) := by decide +kernel
theorem dL_isRefused_466 : decode cL_isRefused 466 = .ok (.iload 10, 2) := by decide +kernel
theorem dL_isRefused_468 : decode cL_isRefused 468 = .ok (.ifCond .eq 43, 3) := by decide +kernel
theorem dL_isRefused_471 : decode cL_isRefused 471 = .ok (.aload_n 1, 1) := by decide +kernel
theorem dL_isRefused_472 : decode cL_isRefused 472 = .ok (.iload 11, 2) := by decide +kernel
theorem dL_isRefused_474 : decode cL_isRefused 474 = .ok (.iaload, 1) := by decide +kernel
theorem dL_isRefused_475 : decode cL_isRefused 475 = .ok (.ifCond .ge 23, 3) := by decide +kernel
theorem dL_isRefused_478 : decode cL_isRefused 478 = .ok (.aload_n 0, 1) := by decide +kernel
theorem dL_isRefused_479 : decode cL_isRefused 479 = .ok (.iconst 2, 1) := by decide +kernel
theorem dL_isRefused_480 : decode cL_isRefused 480 = .ok (.iload 7, 2) := by decide +kernel
theorem dL_isRefused_482 : decode cL_isRefused 482 = .ok (.iload 11, 2) := by decide +kernel
theorem dL_isRefused_484 : decode cL_isRefused 484 = .ok (.bipush 20, 2) := by decide +kernel
theorem dL_isRefused_486 : decode cL_isRefused 486 = .ok (.irem, 1) := by decide +kernel
theorem dL_isRefused_487 : decode cL_isRefused 487 = .ok (.iconst 0, 1) := by decide +kernel
theorem dL_isRefused_488 : decode cL_isRefused 488 = .ok (.iconst 0, 1) := by decide +kernel
theorem dL_isRefused_489 : decode cL_isRefused 489 = .ok (.invokestatic 92, 3) := by decide +kernel
theorem dL_isRefused_492 : decode cL_isRefused 492 = .ok (.sipush (-993), 3) := by decide +kernel
theorem dL_isRefused_495 : decode cL_isRefused 495 = .ok (.if_icmp .ne 7, 3) := by decide +kernel
theorem dL_isRefused_498 : decode cL_isRefused 498 = .ok (.iconst 1, 1) := by decide +kernel
theorem dL_isRefused_499 : decode cL_isRefused 499 = .ok (.goto 4, 3) := by decide +kernel
theorem dL_isRefused_502 : decode cL_isRefused 502 = .ok (.iconst 0, 1) := by decide +kernel
theorem dL_isRefused_503 : decode cL_isRefused 503 = .ok (.istore 10, 2) := by decide +kernel
theorem dL_isRefused_505 : decode cL_isRefused 505 = .ok (.iinc 11 1, 3) := by decide +kernel
theorem dL_isRefused_508 : decode cL_isRefused 508 = .ok (.goto (-55), 3) := by decide +kernel
theorem dL_isRefused_511 : decode cL_isRefused 511 = .ok (.iload 10, 2) := by decide +kernel
theorem dL_isRefused_513 : decode cL_isRefused 513 = .ok (.ifCond .eq 42, 3) := by decide +kernel
theorem dL_isRefused_516 : decode cL_isRefused 516 = .ok (.aload_n 2, 1) := by decide +kernel
theorem dL_isRefused_517 : decode cL_isRefused 517 = .ok (.iconst 4, 1) := by decide +kernel
theorem dL_isRefused_518 : decode cL_isRefused 518 = .ok (.iload 7, 2) := by decide +kernel
theorem dL_isRefused_520 : decode cL_isRefused 520 = .ok (.imul, 1) := by decide +kernel
theorem dL_isRefused_521 : decode cL_isRefused 521 = .ok (.iconst 2, 1) := by decide +kernel
theorem dL_isRefused_522 : decode cL_isRefused 522 = .ok (.iadd, 1) := by decide +kernel
theorem dL_isRefused_523 : decode cL_isRefused 523 = .ok (.iaload, 1) := by decide +kernel
theorem dL_isRefused_524 : decode cL_isRefused 524 = .ok (.ifCond .gt 17, 3) := by decide +kernel
theorem dL_isRefused_527 : decode cL_isRefused 527 = .ok (.aload_n 0, 1) := by decide +kernel
theorem dL_isRefused_528 : decode cL_isRefused 528 = .ok (.iconst 1, 1) := by decide +kernel
theorem dL_isRefused_529 : decode cL_isRefused 529 = .ok (.iload 7, 2) := by decide +kernel
theorem dL_isRefused_531 : decode cL_isRefused 531 = .ok (.iconst 0, 1) := by decide +kernel
theorem dL_isRefused_532 : decode cL_isRefused 532 = .ok (.invokestatic 95, 3) := by decide +kernel
theorem dL_isRefused_535 : decode cL_isRefused 535 = .ok (.sipush (-993), 3) := by decide +kernel
theorem dL_isRefused_538 : decode cL_isRefused 538 = .ok (.if_icmp .ne 17, 3) := by decide +kernel
theorem dL_isRefused_541 : decode cL_isRefused 541 = .ok (.aload_n 0, 1) := by decide +kernel
theorem dL_isRefused_542 : decode cL_isRefused 542 = .ok (.invokestatic 88, 3) := by decide +kernel
theorem dL_isRefused_545 : decode cL_isRefused 545 = .ok (.lload 8, 2) := by decide +kernel
theorem dL_isRefused_547 : decode cL_isRefused 547 = .ok (.lcmp, 1) := by decide +kernel
theorem dL_isRefused_548 : decode cL_isRefused 548 = .ok (.ifCond .ne 7, 3) := by decide +kernel
theorem dL_isRefused_551 : decode cL_isRefused 551 = .ok (.iconst 1, 1) := by decide +kernel
theorem dL_isRefused_552 : decode cL_isRefused 552 = .ok (.goto 4, 3) := by decide +kernel
theorem dL_isRefused_555 : decode cL_isRefused 555 = .ok (.iconst 0, 1) := by decide +kernel
theorem dL_isRefused_556 : decode cL_isRefused 556 = .ok (.ireturn, 1) := by decide +kernel
theorem dL_clear_0 : decode cL_clear 0 = .ok (.bipush 20, 2) := by decide +kernel
theorem dL_clear_2 : decode cL_clear 2 = .ok (.iload_n 3, 1) := by decide +kernel
theorem dL_clear_3 : decode cL_clear 3 = .ok (.imul, 1) := by decide +kernel
theorem dL_clear_4 : decode cL_clear 4 = .ok (.istore 5, 2) := by decide +kernel
theorem dL_clear_6 : decode cL_clear 6 = .ok (.iload 5, 2) := by decide +kernel
theorem dL_clear_8 : decode cL_clear 8 = .ok (.bipush 20, 2) := by decide +kernel
theorem dL_clear_10 : decode cL_clear 10 = .ok (.iload_n 3, 1) := by decide +kernel
theorem dL_clear_11 : decode cL_clear 11 = .ok (.imul, 1) := by decide +kernel
theorem dL_clear_12 : decode cL_clear 12 = .ok (.bipush 20, 2) := by decide +kernel
theorem dL_clear_14 : decode cL_clear 14 = .ok (.iadd, 1) := by decide +kernel
theorem dL_clear_15 : decode cL_clear 15 = .ok (.if_icmp .ge 75, 3) := by decide +kernel
theorem dL_clear_18 : decode cL_clear 18 = .ok (.aload_n 2, 1) := by decide +kernel
theorem dL_clear_19 : decode cL_clear 19 = .ok (.iconst 4, 1) := by decide +kernel
theorem dL_clear_20 : decode cL_clear 20 = .ok (.iload_n 3, 1) := by decide +kernel
theorem dL_clear_21 : decode cL_clear 21 = .ok (.imul, 1) := by decide +kernel
theorem dL_clear_22 : decode cL_clear 22 = .ok (.iconst 1, 1) := by decide +kernel
theorem dL_clear_23 : decode cL_clear 23 = .ok (.iadd, 1) := by decide +kernel
theorem dL_clear_24 : decode cL_clear 24 = .ok (.iaload, 1) := by decide +kernel
theorem dL_clear_25 : decode cL_clear 25 = .ok (.iconst 2, 1) := by decide +kernel
theorem dL_clear_26 : decode cL_clear 26 = .ok (.if_icmp .eq 26, 3) := by decide +kernel
theorem dL_clear_29 : decode cL_clear 29 = .ok (.aload_n 2, 1) := by decide +kernel
theorem dL_clear_30 : decode cL_clear 30 = .ok (.iconst 4, 1) := by decide +kernel
theorem dL_clear_31 : decode cL_clear 31 = .ok (.iload_n 3, 1) := by decide +kernel
theorem dL_clear_32 : decode cL_clear 32 = .ok (.imul, 1) := by decide +kernel
theorem dL_clear_33 : decode cL_clear 33 = .ok (.iconst 1, 1) := by decide +kernel
theorem dL_clear_34 : decode cL_clear 34 = .ok (.iadd, 1) := by decide +kernel
theorem dL_clear_35 : decode cL_clear 35 = .ok (.iaload, 1) := by decide +kernel
theorem dL_clear_36 : decode cL_clear 36 = .ok (.iconst 1, 1) := by decide +kernel
theorem dL_clear_37 : decode cL_clear 37 = .ok (.if_icmp .ne 19, 3) := by decide +kernel
theorem dL_clear_40 : decode cL_clear 40 = .ok (.aload_n 1, 1) := by decide +kernel
theorem dL_clear_41 : decode cL_clear 41 = .ok (.iload 5, 2) := by decide +kernel
theorem dL_clear_43 : decode cL_clear 43 = .ok (.iaload, 1) := by decide +kernel
theorem dL_clear_44 : decode cL_clear 44 = .ok (.bipush 10, 2) := by decide +kernel
theorem dL_clear_46 : decode cL_clear 46 = .ok (.iadd, 1) := by decide +kernel
theorem dL_clear_47 : decode cL_clear 47 = .ok (.iload 4, 2) := by decide +kernel
theorem dL_clear_49 : decode cL_clear 49 = .ok (.if_icmp .gt 7, 3) := by decide +kernel
theorem dL_clear_52 : decode cL_clear 52 = .ok (.iconst 1, 1) := by decide +kernel
theorem dL_clear_53 : decode cL_clear 53 = .ok (.goto 4, 3) := by decide +kernel
theorem dL_clear_56 : decode cL_clear 56 = .ok (.iconst 0, 1) := by decide +kernel
theorem dL_clear_57 : decode cL_clear 57 = .ok (.istore 6, 2) := by decide +kernel
theorem dL_clear_59 : decode cL_clear 59 = .ok (.aload_n 0, 1) := by decide +kernel
theorem dL_clear_60 : decode cL_clear 60 = .ok (.iload 5, 2) := by decide +kernel
theorem dL_clear_62 : decode cL_clear 62 = .ok (.aload_n 0, 1) := by decide +kernel
theorem dL_clear_63 : decode cL_clear 63 = .ok (.iload 5, 2) := by decide +kernel
theorem dL_clear_65 : decode cL_clear 65 = .ok (.iaload, 1) := by decide +kernel
theorem dL_clear_66 : decode cL_clear 66 = .ok (.iconst (-1), 1) := by decide +kernel
theorem dL_clear_67 : decode cL_clear 67 = .ok (.if_icmp .ge 12, 3) := by decide +kernel
theorem dL_clear_70 : decode cL_clear 70 = .ok (.iload 6, 2) := by decide +kernel
theorem dL_clear_72 : decode cL_clear 72 = .ok (.ifCond .eq 7, 3) := by decide +kernel
theorem dL_clear_75 : decode cL_clear 75 = .ok (.iconst (-1), 1) := by decide +kernel
theorem dL_clear_76 : decode cL_clear 76 = .ok (.goto 7, 3) := by decide +kernel
theorem dL_clear_79 : decode cL_clear 79 = .ok (.aload_n 0, 1) := by decide +kernel
theorem dL_clear_80 : decode cL_clear 80 = .ok (.iload 5, 2) := by decide +kernel
theorem dL_clear_82 : decode cL_clear 82 = .ok (.iaload, 1) := by decide +kernel
theorem dL_clear_83 : decode cL_clear 83 = .ok (.iastore, 1) := by decide +kernel
theorem dL_clear_84 : decode cL_clear 84 = .ok (.iinc 5 1, 3) := by decide +kernel
theorem dL_clear_87 : decode cL_clear 87 = .ok (.goto (-81), 3) := by decide +kernel
theorem dL_clear_90 : decode cL_clear 90 = .ok (.return_, 1) := by decide +kernel
