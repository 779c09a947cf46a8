set_option maxRecDepth 20000 in
theorem ggL_isRound_X3_mark : GoodIn wsL_isRound wsX3_mark := goodIn_ca (goodIn_r _ [5, 6, 7, 8, 9, 4, 10, 11, 12, 13, 132, 133, 134, 135, 136, 137, 138, 139, 140, 141, 142, 143] (by decide +kernel) (by decide +kernel)) (goodIn_sub (fun _ h => List.mem_cons_of_mem _ (List.mem_append_left _ (List.mem_append_right _ h))) (by decide +kernel))
set_option maxRecDepth 20000 in
theorem gL_isRound_X3_mark : GoodIn wsL_isRound (wsV RL 48 RX3 yX3_mark wsX3_mark) := goodIn_app (goodIn_of _ (by decide +kernel)) ggL_isRound_X3_mark
set_option maxRecDepth 20000 in
theorem ggL_isRound_L_stampOf : GoodIn wsL_isRound wsL_stampOf := goodIn_r _ [17] (by decide +kernel) (by decide +kernel)
set_option maxRecDepth 20000 in
theorem gL_isRound_L_stampOf : GoodIn wsL_isRound (va_wsS RL 83 yL_stampOf wsL_stampOf) := goodIn_app (goodIn_of _ (by decide +kernel)) ggL_isRound_L_stampOf
set_option maxRecDepth 20000 in
theorem ggL_isRound_X3_open : GoodIn wsL_isRound wsX3_open := goodIn_ca (goodIn_r _ [21, 22, 7, 8, 9, 4, 10, 11, 12, 13, 23, 24, 25, 26, 27, 28, 29, 30, 31, 32, 33, 34, 35, 36, 37, 38, 39, 142, 143, 132, 133, 134, 135, 136, 137, 138, 139, 140, 141] (by decide +kernel) (by decide +kernel)) (goodIn_sub (fun _ h => List.mem_cons_of_mem _ (List.mem_append_left _ (List.mem_append_right _ h))) (by decide +kernel))
set_option maxRecDepth 20000 in
theorem gL_isRound_X3_open : GoodIn wsL_isRound (wsV RL 37 RX3 yX3_open wsX3_open) := goodIn_app (goodIn_of _ (by decide +kernel)) ggL_isRound_X3_open
set_option maxRecDepth 20000 in
theorem ggL_isRound_X3_isOpen : GoodIn wsL_isRound wsX3_isOpen := goodIn_ca (goodIn_r _ [43, 44, 7, 8, 9, 4, 10, 11, 12, 13, 132, 133, 134, 135, 136, 137, 138, 139, 140, 141, 142, 143] (by decide +kernel) (by decide +kernel)) (goodIn_sub (fun _ h => List.mem_cons_of_mem _ (List.mem_append_left _ (List.mem_append_right _ h))) (by decide +kernel))
set_option maxRecDepth 20000 in
theorem gL_isRound_X3_isOpen : GoodIn wsL_isRound (wsV RL 44 RX3 yX3_isOpen wsX3_isOpen) := goodIn_app (goodIn_of _ (by decide +kernel)) ggL_isRound_X3_isOpen
set_option maxRecDepth 20000 in
theorem ggL_isRound_X3_read : GoodIn wsL_isRound wsX3_read := goodIn_ca (goodIn_ca (goodIn_r _ [48, 49, 50, 44, 22, 7, 8, 9, 4, 10, 11, 12, 13, 51, 52, 53, 26, 54, 31, 29, 55, 24, 25, 27, 28, 30, 32, 33, 34, 56, 57, 58, 59, 60, 61, 36, 37, 38, 39, 62, 63, 64, 65, 66, 67, 68, 69, 70, 71, 72, 73, 74, 75, 76, 77, 78, 79, 80, 81, 82, 83, 84, 85, 86, 87, 88, 89, 90, 91, 92, 93, 94, 95, 96, 97, 98, 99, 100, 101, 102, 103, 104, 105, 106, 107, 108, 109, 110, 111, 112, 132, 133, 134, 135, 136, 137, 138, 139, 140, 141, 142, 143, 144, 145, 146, 147, 148, 149, 150, 151, 152, 153] (by decide +kernel) (by decide +kernel)) (goodIn_sub (fun _ h => List.mem_cons_of_mem _ (List.mem_append_right _ h)) (by decide +kernel))) (goodIn_sub (fun _ h => List.mem_cons_of_mem _ (List.mem_append_left _ (List.mem_append_right _ h))) (by decide +kernel))
set_option maxRecDepth 20000 in
theorem gL_isRound_X3_read : GoodIn wsL_isRound (wsV RL 41 RX3 yX3_read wsX3_read) := goodIn_app (goodIn_of _ (by decide +kernel)) ggL_isRound_X3_read
set_option maxRecDepth 20000 in
theorem ggL_isRound_X3_today : GoodIn wsL_isRound wsX3_today := goodIn_r _ [116, 22, 142, 143] (by decide +kernel) (by decide +kernel)
set_option maxRecDepth 20000 in
theorem gL_isRound_X3_today : GoodIn wsL_isRound (wsV RL 67 RX3 yX3_today wsX3_today) := goodIn_app (goodIn_of _ (by decide +kernel)) ggL_isRound_X3_today
set_option maxRecDepth 20000 in
theorem ggL_isRound_X3_wrong : GoodIn wsL_isRound wsX3_wrong := goodIn_ca (goodIn_r _ [120, 121, 122, 123, 7, 8, 9, 4, 10, 11, 12, 13, 124, 125, 126, 90, 127, 128, 129, 130, 131, 92, 93, 94, 95, 132, 133, 134, 135, 136, 137, 138, 139, 140, 141, 144, 145, 146, 147, 148, 149, 142, 143, 150, 151, 152, 153] (by decide +kernel) (by decide +kernel)) (goodIn_sub (fun _ h => List.mem_cons_of_mem _ (List.mem_append_left _ (List.mem_append_right _ h))) (by decide +kernel))
set_option maxRecDepth 20000 in
theorem gL_isRound_X3_wrong : GoodIn wsL_isRound (wsV RL 58 RX3 yX3_wrong wsX3_wrong) := goodIn_app (goodIn_of _ (by decide +kernel)) ggL_isRound_X3_wrong
theorem dL_isRound_0 : decode cL_isRound 0 = .ok (.iload 5, 2) := by decide +kernel
theorem dL_isRound_2 : decode cL_isRound 2 = .ok (.ifCond .eq 7, 3) := by decide +kernel
theorem dL_isRound_5 : decode cL_isRound 5 = .ok (.iconst 0, 1) := by decide +kernel
theorem dL_isRound_6 : decode cL_isRound 6 = .ok (.goto 9, 3) := by decide +kernel
theorem dL_isRound_9 : decode cL_isRound 9 = .ok (.aload_n 0, 1) := by decide +kernel
theorem dL_isRound_10 : decode cL_isRound 10 = .ok (.iload 4, 2) := by decide +kernel
theorem dL_isRound_12 : decode cL_isRound 12 = .ok (.invokevirtual 48, 3) := by decide +kernel
theorem dL_isRound_15 : decode cL_isRound 15 = .ok (.istore 6, 2) := by decide +kernel
theorem dL_isRound_17 : decode cL_isRound 17 = .ok (.iconst 0, 1) := by decide +kernel
theorem dL_isRound_18 : decode cL_isRound 18 = .ok (.istore 7, 2) := by decide +kernel
theorem dL_isRound_20 : decode cL_isRound 20 = .ok (.iconst 0, 1) := by decide +kernel
theorem dL_isRound_21 : decode cL_isRound 21 = .ok (.istore 8, 2) := by decide +kernel
theorem dL_isRound_23 : decode cL_isRound 23 = .ok (.bipush 20, 2) := by decide +kernel
theorem dL_isRound_25 : decode cL_isRound 25 = .ok (.iload 4, 2) := by decide +kernel
theorem dL_isRound_27 : decode cL_isRound 27 = .ok (.imul, 1) := by decide +kernel
theorem dL_isRound_28 : decode cL_isRound 28 = .ok (.istore 9, 2) := by decide +kernel
theorem dL_isRound_30 : decode cL_isRound 30 = .ok (.iload 9, 2) := by decide +kernel
theorem dL_isRound_32 : decode cL_isRound 32 = .ok (.bipush 20, 2) := by decide +kernel
theorem dL_isRound_34 : decode cL_isRound 34 = .ok (.iload 4, 2) := by decide +kernel
theorem dL_isRound_36 : decode cL_isRound 36 = .ok (.imul, 1) := by decide +kernel
theorem dL_isRound_37 : decode cL_isRound 37 = .ok (.bipush 20, 2) := by decide +kernel
theorem dL_isRound_39 : decode cL_isRound 39 = .ok (.iadd, 1) := by decide +kernel
theorem dL_isRound_40 : decode cL_isRound 40 = .ok (.if_icmp .ge 91, 3) := by decide +kernel
theorem dL_isRound_43 : decode cL_isRound 43 = .ok (.aload_n 1, 1) := by decide +kernel
theorem dL_isRound_44 : decode cL_isRound 44 = .ok (.iload 9, 2) := by decide +kernel
theorem dL_isRound_46 : decode cL_isRound 46 = .ok (.iaload, 1) := by decide +kernel
theorem dL_isRound_47 : decode cL_isRound 47 = .ok (.iconst (-1), 1) := by decide +kernel
theorem dL_isRound_48 : decode cL_isRound 48 = .ok (.if_icmp .eq 19, 3) := by decide +kernel
theorem dL_isRound_51 : decode cL_isRound 51 = .ok (.aload_n 1, 1) := by decide +kernel
theorem dL_isRound_52 : decode cL_isRound 52 = .ok (.iload 9, 2) := by decide +kernel
theorem dL_isRound_54 : decode cL_isRound 54 = .ok (.iaload, 1) := by decide +kernel
theorem dL_isRound_55 : decode cL_isRound 55 = .ok (.invokestatic 83, 3) := by decide +kernel
theorem dL_isRound_58 : decode cL_isRound 58 = .ok (.iload 6, 2) := by decide +kernel
theorem dL_isRound_60 : decode cL_isRound 60 = .ok (.if_icmp .lt 7, 3) := by decide +kernel
theorem dL_isRound_63 : decode cL_isRound 63 = .ok (.iconst 1, 1) := by decide +kernel
theorem dL_isRound_64 : decode cL_isRound 64 = .ok (.goto 4, 3) := by decide +kernel
theorem dL_isRound_67 : decode cL_isRound 67 = .ok (.iconst 0, 1) := by decide +kernel
theorem dL_isRound_68 : decode cL_isRound 68 = .ok (.istore 10, 2) := by decide +kernel
theorem dL_isRound_70 : decode cL_isRound 70 = .ok (.iload 7, 2) := by decide +kernel
theorem dL_isRound_72 : decode cL_isRound 72 = .ok (.iload 10, 2) := by decide +kernel
theorem dL_isRound_74 : decode cL_isRound 74 = .ok (.ifCond .eq 7, 3) := by decide +kernel
theorem dL_isRound_77 : decode cL_isRound 77 = .ok (.iconst 1, 1) := by decide +kernel
theorem dL_isRound_78 : decode cL_isRound 78 = .ok (.goto 4, 3) := by decide +kernel
theorem dL_isRound_81 : decode cL_isRound 81 = .ok (.iconst 0, 1) := by decide +kernel
theorem dL_isRound_82 : decode cL_isRound 82 = .ok (.iadd, 1) := by decide +kernel
theorem dL_isRound_83 : decode cL_isRound 83 = .ok (.istore 7, 2) := by decide +kernel
theorem dL_isRound_85 : decode cL_isRound 85 = .ok (.aload_n 2, 1) := by decide +kernel
theorem dL_isRound_86 : decode cL_isRound 86 = .ok (.iload 9, 2) := by decide +kernel
theorem dL_isRound_88 : decode cL_isRound 88 = .ok (.iload 10, 2) := by decide +kernel
theorem dL_isRound_90 : decode cL_isRound 90 = .ok (.ifCond .eq 21, 3) := by decide +kernel
theorem dL_isRound_93 : decode cL_isRound 93 = .ok (.aload_n 1, 1) := by decide +kernel
theorem dL_isRound_94 : decode cL_isRound 94 = .ok (.iload 9, 2) := by decide +kernel
theorem dL_isRound_96 : decode cL_isRound 96 = .ok (.iaload, 1) := by decide +kernel
theorem dL_isRound_97 : decode cL_isRound 97 = .ok (.ifCond .ge 7, 3) := by decide +kernel
theorem dL_isRound_100 : decode cL_isRound 100 = .ok (.iconst (-1), 1) := by decide +kernel
theorem dL_isRound_101 : decode cL_isRound 101 = .ok (.goto 23, 3) := by decide +kernel
theorem dL_isRound_104 : decode cL_isRound 104 = .ok (.aload_n 1, 1) := by decide +kernel
theorem dL_isRound_105 : decode cL_isRound 105 = .ok (.iload 9, 2) := by decide +kernel
theorem dL_isRound_107 : decode cL_isRound 107 = .ok (.iaload, 1) := by decide +kernel
theorem dL_isRound_108 : decode cL_isRound 108 = .ok (.goto 16, 3) := by decide +kernel
theorem dL_isRound_111 : decode cL_isRound 111 = .ok (.iload 5, 2) := by decide +kernel
theorem dL_isRound_113 : decode cL_isRound 113 = .ok (.ifCond .eq 7, 3) := by decide +kernel
theorem dL_isRound_116 : decode cL_isRound 116 = .ok (.iconst (-1), 1) := by decide +kernel
theorem dL_isRound_117 : decode cL_isRound 117 = .ok (.goto 7, 3) := by decide +kernel
theorem dL_isRound_120 : decode cL_isRound 120 = .ok (.aload_n 2, 1) := by decide +kernel
theorem dL_isRound_121 : decode cL_isRound 121 = .ok (.iload 9, 2) := by decide +kernel
theorem dL_isRound_123 : decode cL_isRound 123 = .ok (.iaload, 1) := by decide +kernel
theorem dL_isRound_124 : decode cL_isRound 124 = .ok (.iastore, 1) := by decide +kernel
theorem dL_isRound_125 : decode cL_isRound 125 = .ok (.iinc 9 1, 3) := by decide +kernel
theorem dL_isRound_128 : decode cL_isRound 128 = .ok (.goto (-98), 3) := by decide +kernel
theorem dL_isRound_131 : decode cL_isRound 131 = .ok (.aload_n 0, 1) := by decide +kernel
theorem dL_isRound_132 : decode cL_isRound 132 = .ok (.iload 4, 2) := by decide +kernel
theorem dL_isRound_134 : decode cL_isRound 134 = .ok (.iload 5, 2) := by decide +kernel
theorem dL_isRound_136 : decode cL_isRound 136 = .ok (.invokevirtual 37, 3) := by decide +kernel
theorem dL_isRound_139 : decode cL_isRound 139 = .ok (.iload 6, 2) := by decide +kernel
theorem dL_isRound_141 : decode cL_isRound 141 = .ok (.if_icmp .ne 16, 3) := by decide +kernel
theorem dL_isRound_144 : decode cL_isRound 144 = .ok (.aload_n 0, 1) := by decide +kernel
theorem dL_isRound_145 : decode cL_isRound 145 = .ok (.iload 4, 2) := by decide +kernel
theorem dL_isRound_147 : decode cL_isRound 147 = .ok (.invokevirtual 44, 3) := by decide +kernel
theorem dL_isRound_150 : decode cL_isRound 150 = .ok (.ifCond .eq 7, 3) := by decide +kernel
theorem dL_isRound_153 : decode cL_isRound 153 = .ok (.iconst 1, 1) := by decide +kernel
theorem dL_isRound_154 : decode cL_isRound 154 = .ok (.goto 4, 3) := by decide +kernel
theorem dL_isRound_157 : decode cL_isRound 157 = .ok (.iconst 0, 1) := by decide +kernel
theorem dL_isRound_158 : decode cL_isRound 158 = .ok (.istore 9, 2) := by decide +kernel
theorem dL_isRound_160 : decode cL_isRound 160 = .ok (.iload 9, 2) := by decide +kernel
theorem dL_isRound_162 : decode cL_isRound 162 = .ok (.ifCond .eq 95, 3) := by decide +kernel
theorem dL_isRound_165 : decode cL_isRound 165 = .ok (.aload_n 0, 1) := by decide +kernel
theorem dL_isRound_166 : decode cL_isRound 166 = .ok (.iload 4, 2) := by decide +kernel
theorem dL_isRound_168 : decode cL_isRound 168 = .ok (.invokevirtual 44, 3) := by decide +kernel
theorem dL_isRound_171 : decode cL_isRound 171 = .ok (.ifCond .eq 86, 3) := by decide +kernel
theorem dL_isRound_174 : decode cL_isRound 174 = .ok (.iload 8, 2) := by decide +kernel
theorem dL_isRound_176 : decode cL_isRound 176 = .ok (.bipush 9, 2) := by decide +kernel
theorem dL_isRound_178 : decode cL_isRound 178 = .ok (.if_icmp .ge 79, 3) := by decide +kernel
theorem dL_isRound_181 : decode cL_isRound 181 = .ok (.aload_n 0, 1) := by decide +kernel
theorem dL_isRound_182 : decode cL_isRound 182 = .ok (.iload 4, 2) := by decide +kernel
theorem dL_isRound_184 : decode cL_isRound 184 = .ok (.invokevirtual 41, 3) := by decide +kernel
theorem dL_isRound_187 : decode cL_isRound 187 = .ok (.istore 10, 2) := by decide +kernel
theorem dL_isRound_189 : decode cL_isRound 189 = .ok (.iload 10, 2) := by decide +kernel
theorem dL_isRound_191 : decode cL_isRound 191 = .ok (.iload 7, 2) := by decide +kernel
theorem dL_isRound_193 : decode cL_isRound 193 = .ok (.iconst 3, 1) := by decide +kernel
theorem dL_isRound_194 : decode cL_isRound 194 = .ok (.if_icmp .ge 8, 3) := by decide +kernel
theorem dL_isRound_197 : decode cL_isRound 197 = .ok (.iload 7, 2) := by decide +kernel
theorem dL_isRound_199 : decode cL_isRound 199 = .ok (.goto 4, 3) := by decide +kernel
theorem dL_isRound_202 : decode cL_isRound 202 = .ok (.iconst 3, 1) := by decide +kernel
theorem dL_isRound_203 : decode cL_isRound 203 = .ok (.if_icmp .ne 7, 3) := by decide +kernel
theorem dL_isRound_206 : decode cL_isRound 206 = .ok (.iconst 1, 1) := by decide +kernel
theorem dL_isRound_207 : decode cL_isRound 207 = .ok (.goto 4, 3) := by decide +kernel
theorem dL_isRound_210 : decode cL_isRound 210 = .ok (.iconst 0, 1) := by decide +kernel
theorem dL_isRound_211 : decode cL_isRound 211 = .ok (.istore 9, 2) := by decide +kernel
theorem dL_isRound_213 : decode cL_isRound 213 = .ok (.iload 7, 2) := by decide +kernel
theorem dL_isRound_215 : decode cL_isRound 215 = .ok (.iload 10, 2) := by decide +kernel
theorem dL_isRound_217 : decode cL_isRound 217 = .ok (.isub, 1) := by decide +kernel
theorem dL_isRound_218 : decode cL_isRound 218 = .ok (.istore 7, 2) := by decide +kernel
theorem dL_isRound_220 : decode cL_isRound 220 = .ok (.iinc 8 1, 3) := by decide +kernel
theorem dL_isRound_223 : decode cL_isRound 223 = .ok (.iload 9, 2) := by decide +kernel
theorem dL_isRound_225 : decode cL_isRound 225 = .ok (.ifCond .eq 26, 3) := by decide +kernel
theorem dL_isRound_228 : decode cL_isRound 228 = .ok (.aload_n 0, 1) := by decide +kernel
theorem dL_isRound_229 : decode cL_isRound 229 = .ok (.iload 4, 2) := by decide +kernel
theorem dL_isRound_231 : decode cL_isRound 231 = .ok (.invokevirtual 44, 3) := by decide +kernel
theorem dL_isRound_234 : decode cL_isRound 234 = .ok (.iload 7, 2) := by decide +kernel
theorem dL_isRound_236 : decode cL_isRound 236 = .ok (.ifCond .le 7, 3) := by decide +kernel
theorem dL_isRound_239 : decode cL_isRound 239 = .ok (.iconst 1, 1) := by decide +kernel
theorem dL_isRound_240 : decode cL_isRound 240 = .ok (.goto 4, 3) := by decide +kernel
theorem dL_isRound_243 : decode cL_isRound 243 = .ok (.iconst 0, 1) := by decide +kernel
theorem dL_isRound_244 : decode cL_isRound 244 = .ok (.if_icmp .ne 7, 3) := by decide +kernel
theorem dL_isRound_247 : decode cL_isRound 247 = .ok (.iconst 1, 1) := by decide +kernel
theorem dL_isRound_248 : decode cL_isRound 248 = .ok (.goto 4, 3) := by decide +kernel
theorem dL_isRound_251 : decode cL_isRound 251 = .ok (.iconst 0, 1) := by decide +kernel
theorem dL_isRound_252 : decode cL_isRound 252 = .ok (.istore 9, 2) := by decide +kernel
theorem dL_isRound_254 : decode cL_isRound 254 = .ok (.goto (-94), 3) := by decide +kernel
theorem dL_isRound_257 : decode cL_isRound 257 = .ok (.aload_n 3, 1) := by decide +kernel
theorem dL_isRound_258 : decode cL_isRound 258 = .ok (.iconst 4, 1) := by decide +kernel
theorem dL_isRound_259 : decode cL_isRound 259 = .ok (.iload 4, 2) := by decide +kernel
theorem dL_isRound_261 : decode cL_isRound 261 = .ok (.imul, 1) := by decide +kernel
theorem dL_isRound_262 : decode cL_isRound 262 = .ok (.iconst 2, 1) := by decide +kernel
theorem dL_isRound_263 : decode cL_isRound 263 = .ok (.iadd, 1) := by decide +kernel
theorem dL_isRound_264 : decode cL_isRound 264 = .ok (.iconst 0, 1) := by decide +kernel
theorem dL_isRound_265 : decode cL_isRound 265 = .ok (.iastore, 1) := by decide +kernel
theorem dL_isRound_266 : decode cL_isRound 266 = .ok (.iload 9, 2) := by decide +kernel
theorem dL_isRound_268 : decode cL_isRound 268 = .ok (.ifCond .eq 51, 3) := by decide +kernel
theorem dL_isRound_271 : decode cL_isRound 271 = .ok (.iload 7, 2) := by decide +kernel
theorem dL_isRound_273 : decode cL_isRound 273 = .ok (.ifCond .ne 46, 3) := by decide +kernel
theorem dL_isRound_276 : decode cL_isRound 276 = .ok (.aload_n 0, 1) := by decide +kernel
theorem dL_isRound_277 : decode cL_isRound 277 = .ok (.iload 4, 2) := by decide +kernel
theorem dL_isRound_279 : decode cL_isRound 279 = .ok (.invokevirtual 48, 3) := by decide +kernel
theorem dL_isRound_282 : decode cL_isRound 282 = .ok (.aload_n 0, 1) := by decide +kernel
theorem dL_isRound_283 : decode cL_isRound 283 = .ok (.invokevirtual 67, 3) := by decide +kernel
theorem dL_isRound_286 : decode cL_isRound 286 = .ok (.aload_n 0, 1) := by decide +kernel
theorem dL_isRound_287 : decode cL_isRound 287 = .ok (.invokevirtual 67, 3) := by decide +kernel
theorem dL_isRound_290 : decode cL_isRound 290 = .ok (.aload_n 3, 1) := by decide +kernel
theorem dL_isRound_291 : decode cL_isRound 291 = .ok (.iconst 4, 1) := by decide +kernel
theorem dL_isRound_292 : decode cL_isRound 292 = .ok (.iload 4, 2) := by decide +kernel
theorem dL_isRound_294 : decode cL_isRound 294 = .ok (.imul, 1) := by decide +kernel
theorem dL_isRound_295 : decode cL_isRound 295 = .ok (.iaload, 1) := by decide +kernel
theorem dL_isRound_296 : decode cL_isRound 296 = .ok (.irem, 1) := by decide +kernel
theorem dL_isRound_297 : decode cL_isRound 297 = .ok (.isub, 1) := by decide +kernel
theorem dL_isRound_298 : decode cL_isRound 298 = .ok (.if_icmp .ne 21, 3) := by decide +kernel
theorem dL_isRound_301 : decode cL_isRound 301 = .ok (.iload 5, 2) := by decide +kernel
theorem dL_isRound_303 : decode cL_isRound 303 = .ok (.ifCond .eq 12, 3) := by decide +kernel
theorem dL_isRound_306 : decode cL_isRound 306 = .ok (.aload_n 0, 1) := by decide +kernel
theorem dL_isRound_307 : decode cL_isRound 307 = .ok (.iload 4, 2) := by decide +kernel
theorem dL_isRound_309 : decode cL_isRound 309 = .ok (.invokevirtual 58, 3) := by decide +kernel
theorem dL_isRound_312 : decode cL_isRound 312 = .ok (.ifCond .ne 7, 3) := by decide +kernel
theorem dL_isRound_315 : decode cL_isRound 315 = .ok (.iconst 1, 1) := by decide +kernel
theorem dL_isRound_316 : decode cL_isRound 316 = .ok (.goto 4, 3) := by decide +kernel
theorem dL_isRound_319 : decode cL_isRound 319 = .ok (.iconst 0, 1) := by decide +kernel
theorem dL_isRound_320 : decode cL_isRound 320 = .ok (.ireturn, 1) := by decide +kernel
