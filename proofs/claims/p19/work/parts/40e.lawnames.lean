set_option maxRecDepth 20000 in
theorem ggL_areAll_X3_stored : GoodIn wsL_areAll wsX3_stored := goodIn_ca (goodIn_r _ [5, 6, 7, 8, 9, 10, 11, 4, 12, 13, 14, 15, 16, 17, 18, 19, 20, 21, 89, 90, 91, 92, 93, 94, 95, 96, 97, 98, 99, 100, 101, 102, 103, 104] (by decide +kernel) (by decide +kernel)) (goodIn_sub (fun _ h => List.mem_cons_of_mem _ (List.mem_append_right _ h)) (by decide +kernel))
set_option maxRecDepth 20000 in
theorem gL_areAll_X3_stored : GoodIn wsL_areAll (wsV RL 51 RX3 yX3_stored wsX3_stored) := goodIn_app (goodIn_of _ (by decide +kernel)) ggL_areAll_X3_stored
set_option maxRecDepth 20000 in
theorem ggL_areAll_X3_far : GoodIn wsL_areAll wsX3_far := goodIn_ca (goodIn_r _ [25, 26, 27, 9, 10, 11, 4, 12, 13, 14, 15, 28, 29, 30, 31, 32, 33, 89, 90, 91, 92, 93, 94, 95, 96, 97, 98, 105, 106, 107, 108, 109, 110, 103, 104, 99, 100, 101, 102] (by decide +kernel) (by decide +kernel)) (goodIn_sub (fun _ h => List.mem_cons_of_mem _ (List.mem_append_right _ h)) (by decide +kernel))
set_option maxRecDepth 20000 in
theorem gL_areAll_X3_far : GoodIn wsL_areAll (wsV RL 27 RX3 yX3_far wsX3_far) := goodIn_app (goodIn_of _ (by decide +kernel)) ggL_areAll_X3_far
set_option maxRecDepth 20000 in
theorem ggL_areAll_X3_told : GoodIn wsL_areAll wsX3_told := goodIn_ca (goodIn_r _ [37, 26, 9, 10, 11, 4, 12, 13, 14, 15, 38, 39, 40, 41, 42, 43, 89, 90, 91, 92, 93, 94, 95, 96, 97, 98, 103, 104, 105, 106, 107, 108, 109, 110] (by decide +kernel) (by decide +kernel)) (goodIn_sub (fun _ h => List.mem_cons_of_mem _ (List.mem_append_right _ h)) (by decide +kernel))
set_option maxRecDepth 20000 in
theorem gL_areAll_X3_told : GoodIn wsL_areAll (wsV RL 30 RX3 yX3_told wsX3_told) := goodIn_app (goodIn_of _ (by decide +kernel)) ggL_areAll_X3_told
set_option maxRecDepth 20000 in
theorem ggL_areAll_X3_held : GoodIn wsL_areAll wsX3_held := goodIn_ca (goodIn_r _ [47, 6, 9, 10, 11, 4, 12, 13, 14, 15, 28, 29, 30, 31, 32, 33, 89, 90, 91, 92, 93, 94, 95, 96, 97, 98, 103, 104, 99, 100, 101, 102] (by decide +kernel) (by decide +kernel)) (goodIn_sub (fun _ h => List.mem_cons_of_mem _ (List.mem_append_right _ h)) (by decide +kernel))
set_option maxRecDepth 20000 in
theorem gL_areAll_X3_held : GoodIn wsL_areAll (wsV RL 55 RX3 yX3_held wsX3_held) := goodIn_app (goodIn_of _ (by decide +kernel)) ggL_areAll_X3_held
set_option maxRecDepth 20000 in
theorem ggL_areAll_X3_wrong : GoodIn wsL_areAll wsX3_wrong := goodIn_ca (goodIn_r _ [51, 6, 26, 27, 9, 10, 11, 4, 12, 13, 14, 15, 52, 53, 54, 31, 55, 56, 57, 58, 59, 33, 60, 61, 62, 89, 90, 91, 92, 93, 94, 95, 96, 97, 98, 105, 106, 107, 108, 109, 110, 103, 104, 99, 100, 101, 102] (by decide +kernel) (by decide +kernel)) (goodIn_sub (fun _ h => List.mem_cons_of_mem _ (List.mem_append_right _ h)) (by decide +kernel))
set_option maxRecDepth 20000 in
theorem gL_areAll_X3_wrong : GoodIn wsL_areAll (wsV RL 58 RX3 yX3_wrong wsX3_wrong) := goodIn_app (goodIn_of _ (by decide +kernel)) ggL_areAll_X3_wrong
set_option maxRecDepth 20000 in
theorem ggL_areAll_X3_isOpen : GoodIn wsL_areAll wsX3_isOpen := goodIn_ca (goodIn_r _ [66, 67, 9, 10, 11, 4, 12, 13, 14, 15, 89, 90, 91, 92, 93, 94, 95, 96, 97, 98, 103, 104] (by decide +kernel) (by decide +kernel)) (goodIn_sub (fun _ h => List.mem_cons_of_mem _ (List.mem_append_right _ h)) (by decide +kernel))
set_option maxRecDepth 20000 in
theorem gL_areAll_X3_isOpen : GoodIn wsL_areAll (wsV RL 44 RX3 yX3_isOpen wsX3_isOpen) := goodIn_app (goodIn_of _ (by decide +kernel)) ggL_areAll_X3_isOpen
set_option maxRecDepth 20000 in
theorem ggL_areAll_X3_best : GoodIn wsL_areAll wsX3_best := goodIn_ca (goodIn_r _ [71, 6, 72, 19, 20, 4, 21, 13, 14, 9, 10, 11, 12, 15, 73, 74, 75, 31, 76, 33, 60, 62, 89, 90, 91, 92, 93, 94, 95, 96, 97, 98, 99, 100, 101, 102, 103, 104] (by decide +kernel) (by decide +kernel)) (goodIn_sub (fun _ h => List.mem_cons_of_mem _ (List.mem_append_right _ h)) (by decide +kernel))
set_option maxRecDepth 20000 in
theorem gL_areAll_X3_best : GoodIn wsL_areAll (wsV RL 64 RX3 yX3_best wsX3_best) := goodIn_app (goodIn_of _ (by decide +kernel)) ggL_areAll_X3_best
set_option maxRecDepth 20000 in
theorem ggL_areAll_L_stampOf : GoodIn wsL_areAll wsL_stampOf := goodIn_r _ [80] (by decide +kernel) (by decide +kernel)
set_option maxRecDepth 20000 in
theorem gL_areAll_L_stampOf : GoodIn wsL_areAll (va_wsS RL 83 yL_stampOf wsL_stampOf) := goodIn_app (goodIn_of _ (by decide +kernel)) ggL_areAll_L_stampOf
set_option maxRecDepth 20000 in
theorem ggL_areAll_X3_copies : GoodIn wsL_areAll wsX3_copies := goodIn_ca (goodIn_r _ [84, 6, 19, 20, 4, 21, 13, 14, 9, 10, 11, 12, 15, 85, 86, 87, 31, 88, 33, 60, 89, 90, 91, 92, 93, 94, 95, 96, 97, 98, 103, 104, 99, 100, 101, 102] (by decide +kernel) (by decide +kernel)) (goodIn_sub (fun _ h => List.mem_cons_of_mem _ (List.mem_append_right _ h)) (by decide +kernel))
set_option maxRecDepth 20000 in
theorem gL_areAll_X3_copies : GoodIn wsL_areAll (wsV RL 61 RX3 yX3_copies wsX3_copies) := goodIn_app (goodIn_of _ (by decide +kernel)) ggL_areAll_X3_copies
theorem dL_areAll_0 : decode cL_areAll 0 = .ok (.iconst 1, 1) := by decide +kernel
theorem dL_areAll_1 : decode cL_areAll 1 = .ok (.istore 4, 2) := by decide +kernel
theorem dL_areAll_3 : decode cL_areAll 3 = .ok (.iconst 0, 1) := by decide +kernel
theorem dL_areAll_4 : decode cL_areAll 4 = .ok (.istore 5, 2) := by decide +kernel
theorem dL_areAll_6 : decode cL_areAll 6 = .ok (.iload 5, 2) := by decide +kernel
theorem dL_areAll_8 : decode cL_areAll 8 = .ok (.iconst 3, 1) := by decide +kernel
theorem dL_areAll_9 : decode cL_areAll 9 = .ok (.if_icmp .ge 273, 3) := by decide +kernel
theorem dL_areAll_12 : decode cL_areAll 12 = .ok (.iload 4, 2) := by decide +kernel
theorem dL_areAll_14 : decode cL_areAll 14 = .ok (.ifCond .eq 268, 3) := by decide +kernel
theorem dL_areAll_17 : decode cL_areAll 17 = .ok (.iconst 0, 1) := by decide +kernel
theorem dL_areAll_18 : decode cL_areAll 18 = .ok (.istore 6, 2) := by decide +kernel
theorem dL_areAll_20 : decode cL_areAll 20 = .ok (.iconst 0, 1) := by decide +kernel
theorem dL_areAll_21 : decode cL_areAll 21 = .ok (.istore 7, 2) := by decide +kernel
theorem dL_areAll_23 : decode cL_areAll 23 = .ok (.iconst 0, 1) := by decide +kernel
theorem dL_areAll_24 : decode cL_areAll 24 = .ok (.istore 8, 2) := by decide +kernel
theorem dL_areAll_26 : decode cL_areAll 26 = .ok (.iconst 0, 1) := by decide +kernel
theorem dL_areAll_27 : decode cL_areAll 27 = .ok (.istore 9, 2) := by decide +kernel
theorem dL_areAll_29 : decode cL_areAll 29 = .ok (.bipush 20, 2) := by decide +kernel
theorem dL_areAll_31 : decode cL_areAll 31 = .ok (.iload 5, 2) := by decide +kernel
theorem dL_areAll_33 : decode cL_areAll 33 = .ok (.imul, 1) := by decide +kernel
theorem dL_areAll_34 : decode cL_areAll 34 = .ok (.istore 10, 2) := by decide +kernel
theorem dL_areAll_36 : decode cL_areAll 36 = .ok (.iload 10, 2) := by decide +kernel
theorem dL_areAll_38 : decode cL_areAll 38 = .ok (.bipush 20, 2) := by decide +kernel
theorem dL_areAll_40 : decode cL_areAll 40 = .ok (.iload 5, 2) := by decide +kernel
theorem dL_areAll_42 : decode cL_areAll 42 = .ok (.imul, 1) := by decide +kernel
theorem dL_areAll_43 : decode cL_areAll 43 = .ok (.bipush 20, 2) := by decide +kernel
theorem dL_areAll_45 : decode cL_areAll 45 = .ok (.iadd, 1) := by decide +kernel
theorem dL_areAll_46 : decode cL_areAll 46 = .ok (.if_icmp .ge 149, 3) := by decide +kernel
theorem dL_areAll_49 : decode cL_areAll 49 = .ok (.iload 4, 2) := by decide +kernel
theorem dL_areAll_51 : decode cL_areAll 51 = .ok (.ifCond .eq 144, 3) := by decide +kernel
theorem dL_areAll_54 : decode cL_areAll 54 = .ok (.iload 6, 2) := by decide +kernel
theorem dL_areAll_56 : decode cL_areAll 56 = .ok (.aload_n 1, 1) := by decide +kernel
theorem dL_areAll_57 : decode cL_areAll 57 = .ok (.iload 10, 2) := by decide +kernel
theorem dL_areAll_59 : decode cL_areAll 59 = .ok (.iaload, 1) := by decide +kernel
theorem dL_areAll_60 : decode cL_areAll 60 = .ok (.ifCond .lt 7, 3) := by decide +kernel
theorem dL_areAll_63 : decode cL_areAll 63 = .ok (.iconst 1, 1) := by decide +kernel
theorem dL_areAll_64 : decode cL_areAll 64 = .ok (.goto 4, 3) := by decide +kernel
theorem dL_areAll_67 : decode cL_areAll 67 = .ok (.iconst 0, 1) := by decide +kernel
theorem dL_areAll_68 : decode cL_areAll 68 = .ok (.iadd, 1) := by decide +kernel
theorem dL_areAll_69 : decode cL_areAll 69 = .ok (.istore 6, 2) := by decide +kernel
theorem dL_areAll_71 : decode cL_areAll 71 = .ok (.iload 7, 2) := by decide +kernel
theorem dL_areAll_73 : decode cL_areAll 73 = .ok (.aload_n 1, 1) := by decide +kernel
theorem dL_areAll_74 : decode cL_areAll 74 = .ok (.iload 10, 2) := by decide +kernel
theorem dL_areAll_76 : decode cL_areAll 76 = .ok (.iaload, 1) := by decide +kernel
theorem dL_areAll_77 : decode cL_areAll 77 = .ok (.iconst (-1), 1) := by decide +kernel
theorem dL_areAll_78 : decode cL_areAll 78 = .ok (.if_icmp .ge 7, 3) := by decide +kernel
theorem dL_areAll_81 : decode cL_areAll 81 = .ok (.iconst 1, 1) := by decide +kernel
theorem dL_areAll_82 : decode cL_areAll 82 = .ok (.goto 4, 3) := by decide +kernel
theorem dL_areAll_85 : decode cL_areAll 85 = .ok (.iconst 0, 1) := by decide +kernel
theorem dL_areAll_86 : decode cL_areAll 86 = .ok (.iadd, 1) := by decide +kernel
theorem dL_areAll_87 : decode cL_areAll 87 = .ok (.istore 7, 2) := by decide +kernel
theorem dL_areAll_89 : decode cL_areAll 89 = .ok (.iload 8, 2) := by decide +kernel
theorem dL_areAll_91 : decode cL_areAll 91 = .ok (.aload_n 2, 1) := by decide +kernel
theorem dL_areAll_92 : decode cL_areAll 92 = .ok (.iload 10, 2) := by decide +kernel
theorem dL_areAll_94 : decode cL_areAll 94 = .ok (.iaload, 1) := by decide +kernel
theorem dL_areAll_95 : decode cL_areAll 95 = .ok (.ifCond .lt 7, 3) := by decide +kernel
theorem dL_areAll_98 : decode cL_areAll 98 = .ok (.iconst 1, 1) := by decide +kernel
theorem dL_areAll_99 : decode cL_areAll 99 = .ok (.goto 4, 3) := by decide +kernel
theorem dL_areAll_102 : decode cL_areAll 102 = .ok (.iconst 0, 1) := by decide +kernel
theorem dL_areAll_103 : decode cL_areAll 103 = .ok (.iadd, 1) := by decide +kernel
theorem dL_areAll_104 : decode cL_areAll 104 = .ok (.istore 8, 2) := by decide +kernel
theorem dL_areAll_106 : decode cL_areAll 106 = .ok (.iload 9, 2) := by decide +kernel
theorem dL_areAll_108 : decode cL_areAll 108 = .ok (.aload_n 1, 1) := by decide +kernel
theorem dL_areAll_109 : decode cL_areAll 109 = .ok (.iload 10, 2) := by decide +kernel
theorem dL_areAll_111 : decode cL_areAll 111 = .ok (.iaload, 1) := by decide +kernel
theorem dL_areAll_112 : decode cL_areAll 112 = .ok (.ifCond .lt 22, 3) := by decide +kernel
theorem dL_areAll_115 : decode cL_areAll 115 = .ok (.aload_n 1, 1) := by decide +kernel
theorem dL_areAll_116 : decode cL_areAll 116 = .ok (.iload 10, 2) := by decide +kernel
theorem dL_areAll_118 : decode cL_areAll 118 = .ok (.iaload, 1) := by decide +kernel
theorem dL_areAll_119 : decode cL_areAll 119 = .ok (.aload_n 2, 1) := by decide +kernel
theorem dL_areAll_120 : decode cL_areAll 120 = .ok (.iload 10, 2) := by decide +kernel
theorem dL_areAll_122 : decode cL_areAll 122 = .ok (.iaload, 1) := by decide +kernel
theorem dL_areAll_123 : decode cL_areAll 123 = .ok (.if_icmp .ne 7, 3) := by decide +kernel
theorem dL_areAll_126 : decode cL_areAll 126 = .ok (.iconst 0, 1) := by decide +kernel
theorem dL_areAll_127 : decode cL_areAll 127 = .ok (.goto 19, 3) := by decide +kernel
theorem dL_areAll_130 : decode cL_areAll 130 = .ok (.iconst 1, 1) := by decide +kernel
theorem dL_areAll_131 : decode cL_areAll 131 = .ok (.goto 15, 3) := by decide +kernel
theorem dL_areAll_134 : decode cL_areAll 134 = .ok (.aload_n 2, 1) := by decide +kernel
theorem dL_areAll_135 : decode cL_areAll 135 = .ok (.iload 10, 2) := by decide +kernel
theorem dL_areAll_137 : decode cL_areAll 137 = .ok (.iaload, 1) := by decide +kernel
theorem dL_areAll_138 : decode cL_areAll 138 = .ok (.ifCond .lt 7, 3) := by decide +kernel
theorem dL_areAll_141 : decode cL_areAll 141 = .ok (.iconst 1, 1) := by decide +kernel
theorem dL_areAll_142 : decode cL_areAll 142 = .ok (.goto 4, 3) := by decide +kernel
theorem dL_areAll_145 : decode cL_areAll 145 = .ok (.iconst 0, 1) := by decide +kernel
theorem dL_areAll_146 : decode cL_areAll 146 = .ok (.iadd, 1) := by decide +kernel
theorem dL_areAll_147 : decode cL_areAll 147 = .ok (.istore 9, 2) := by decide +kernel
theorem dL_areAll_149 : decode cL_areAll 149 = .ok (.aload_n 0, 1) := by decide +kernel
theorem dL_areAll_150 : decode cL_areAll 150 = .ok (.iload 5, 2) := by decide +kernel
theorem dL_areAll_152 : decode cL_areAll 152 = .ok (.iload 10, 2) := by decide +kernel
theorem dL_areAll_154 : decode cL_areAll 154 = .ok (.bipush 20, 2) := by decide +kernel
theorem dL_areAll_156 : decode cL_areAll 156 = .ok (.irem, 1) := by decide +kernel
theorem dL_areAll_157 : decode cL_areAll 157 = .ok (.invokevirtual 51, 3) := by decide +kernel
theorem dL_areAll_160 : decode cL_areAll 160 = .ok (.aload_n 2, 1) := by decide +kernel
theorem dL_areAll_161 : decode cL_areAll 161 = .ok (.iload 10, 2) := by decide +kernel
theorem dL_areAll_163 : decode cL_areAll 163 = .ok (.iaload, 1) := by decide +kernel
theorem dL_areAll_164 : decode cL_areAll 164 = .ok (.ifCond .ge 7, 3) := by decide +kernel
theorem dL_areAll_167 : decode cL_areAll 167 = .ok (.iconst (-1), 1) := by decide +kernel
theorem dL_areAll_168 : decode cL_areAll 168 = .ok (.goto 11, 3) := by decide +kernel
theorem dL_areAll_171 : decode cL_areAll 171 = .ok (.aload_n 2, 1) := by decide +kernel
theorem dL_areAll_172 : decode cL_areAll 172 = .ok (.iload 10, 2) := by decide +kernel
theorem dL_areAll_174 : decode cL_areAll 174 = .ok (.iaload, 1) := by decide +kernel
theorem dL_areAll_175 : decode cL_areAll 175 = .ok (.sipush 1023, 3) := by decide +kernel
theorem dL_areAll_178 : decode cL_areAll 178 = .ok (.iand, 1) := by decide +kernel
theorem dL_areAll_179 : decode cL_areAll 179 = .ok (.if_icmp .ne 7, 3) := by decide +kernel
theorem dL_areAll_182 : decode cL_areAll 182 = .ok (.iconst 1, 1) := by decide +kernel
theorem dL_areAll_183 : decode cL_areAll 183 = .ok (.goto 4, 3) := by decide +kernel
theorem dL_areAll_186 : decode cL_areAll 186 = .ok (.iconst 0, 1) := by decide +kernel
theorem dL_areAll_187 : decode cL_areAll 187 = .ok (.istore 4, 2) := by decide +kernel
theorem dL_areAll_189 : decode cL_areAll 189 = .ok (.iinc 10 1, 3) := by decide +kernel
theorem dL_areAll_192 : decode cL_areAll 192 = .ok (.goto (-156), 3) := by decide +kernel
theorem dL_areAll_195 : decode cL_areAll 195 = .ok (.iload 4, 2) := by decide +kernel
theorem dL_areAll_197 : decode cL_areAll 197 = .ok (.ifCond .eq 76, 3) := by decide +kernel
theorem dL_areAll_200 : decode cL_areAll 200 = .ok (.aload_n 0, 1) := by decide +kernel
theorem dL_areAll_201 : decode cL_areAll 201 = .ok (.iload 5, 2) := by decide +kernel
theorem dL_areAll_203 : decode cL_areAll 203 = .ok (.invokevirtual 27, 3) := by decide +kernel
theorem dL_areAll_206 : decode cL_areAll 206 = .ok (.iload 6, 2) := by decide +kernel
theorem dL_areAll_208 : decode cL_areAll 208 = .ok (.if_icmp .ne 65, 3) := by decide +kernel
theorem dL_areAll_211 : decode cL_areAll 211 = .ok (.aload_n 0, 1) := by decide +kernel
theorem dL_areAll_212 : decode cL_areAll 212 = .ok (.iload 5, 2) := by decide +kernel
theorem dL_areAll_214 : decode cL_areAll 214 = .ok (.invokevirtual 30, 3) := by decide +kernel
theorem dL_areAll_217 : decode cL_areAll 217 = .ok (.iload 7, 2) := by decide +kernel
theorem dL_areAll_219 : decode cL_areAll 219 = .ok (.if_icmp .ne 54, 3) := by decide +kernel
theorem dL_areAll_222 : decode cL_areAll 222 = .ok (.aload_n 0, 1) := by decide +kernel
theorem dL_areAll_223 : decode cL_areAll 223 = .ok (.iload 5, 2) := by decide +kernel
theorem dL_areAll_225 : decode cL_areAll 225 = .ok (.invokevirtual 55, 3) := by decide +kernel
theorem dL_areAll_228 : decode cL_areAll 228 = .ok (.iload 8, 2) := by decide +kernel
theorem dL_areAll_230 : decode cL_areAll 230 = .ok (.if_icmp .ne 43, 3) := by decide +kernel
theorem dL_areAll_233 : decode cL_areAll 233 = .ok (.aload_n 0, 1) := by decide +kernel
theorem dL_areAll_234 : decode cL_areAll 234 = .ok (.iload 5, 2) := by decide +kernel
theorem dL_areAll_236 : decode cL_areAll 236 = .ok (.invokevirtual 58, 3) := by decide +kernel
theorem dL_areAll_239 : decode cL_areAll 239 = .ok (.iload 9, 2) := by decide +kernel
theorem dL_areAll_241 : decode cL_areAll 241 = .ok (.if_icmp .ne 32, 3) := by decide +kernel
theorem dL_areAll_244 : decode cL_areAll 244 = .ok (.aload_n 0, 1) := by decide +kernel
theorem dL_areAll_245 : decode cL_areAll 245 = .ok (.iload 5, 2) := by decide +kernel
theorem dL_areAll_247 : decode cL_areAll 247 = .ok (.invokevirtual 44, 3) := by decide +kernel
theorem dL_areAll_250 : decode cL_areAll 250 = .ok (.aload_n 3, 1) := by decide +kernel
theorem dL_areAll_251 : decode cL_areAll 251 = .ok (.iconst 4, 1) := by decide +kernel
theorem dL_areAll_252 : decode cL_areAll 252 = .ok (.iload 5, 2) := by decide +kernel
theorem dL_areAll_254 : decode cL_areAll 254 = .ok (.imul, 1) := by decide +kernel
theorem dL_areAll_255 : decode cL_areAll 255 = .ok (.iconst 2, 1) := by decide +kernel
theorem dL_areAll_256 : decode cL_areAll 256 = .ok (.iadd, 1) := by decide +kernel
theorem dL_areAll_257 : decode cL_areAll 257 = .ok (.iaload, 1) := by decide +kernel
theorem dL_areAll_258 : decode cL_areAll 258 = .ok (.ifCond .le 7, 3) := by decide +kernel
theorem dL_areAll_261 : decode cL_areAll 261 = .ok (.iconst 1, 1) := by decide +kernel
theorem dL_areAll_262 : decode cL_areAll 262 = .ok (.goto 4, 3) := by decide +kernel
theorem dL_areAll_265 : decode cL_areAll 265 = .ok (.iconst 0, 1) := by decide +kernel
theorem dL_areAll_266 : decode cL_areAll 266 = .ok (.if_icmp .ne 7, 3) := by decide +kernel
theorem dL_areAll_269 : decode cL_areAll 269 = .ok (.iconst 1, 1) := by decide +kernel
theorem dL_areAll_270 : decode cL_areAll 270 = .ok (.goto 4, 3) := by decide +kernel
theorem dL_areAll_273 : decode cL_areAll 273 = .ok (.iconst 0, 1) := by decide +kernel
theorem dL_areAll_274 : decode cL_areAll 274 = .ok (.istore 4, 2) := by decide +kernel
theorem dL_areAll_276 : decode cL_areAll 276 = .ok (.iinc 5 1, 3) := by decide +kernel
theorem dL_areAll_279 : decode cL_areAll 279 = .ok (.goto (-273), 3) := by decide +kernel
theorem dL_areAll_282 : decode cL_areAll 282 = .ok (.iconst 0, 1) := by decide +kernel
theorem dL_areAll_283 : decode cL_areAll 283 = .ok (.istore 5, 2) := by decide +kernel
theorem dL_areAll_285 : decode cL_areAll 285 = .ok (.iconst 0, 1) := by decide +kernel
theorem dL_areAll_286 : decode cL_areAll 286 = .ok (.istore 6, 2) := by decide +kernel
theorem dL_areAll_288 : decode cL_areAll 288 = .ok (.iload 6, 2) := by decide +kernel
theorem dL_areAll_290 : decode cL_areAll 290 = .ok (.bipush 10, 2) := by decide +kernel
theorem dL_areAll_292 : decode cL_areAll 292 = .ok (.if_icmp .ge 254, 3) := by decide +kernel
theorem dL_areAll_295 : decode cL_areAll 295 = .ok (.iload 4, 2) := by decide +kernel
theorem dL_areAll_297 : decode cL_areAll 297 = .ok (.ifCond .eq 249, 3) := by decide +kernel
theorem dL_areAll_300 : decode cL_areAll 300 = .ok (.aload_n 0, 1) := by decide +kernel
theorem dL_areAll_301 : decode cL_areAll 301 = .ok (.iload 6, 2) := by decide +kernel
theorem dL_areAll_303 : decode cL_areAll 303 = .ok (.invokevirtual 64, 3) := by decide +kernel
theorem dL_areAll_306 : decode cL_areAll 306 = .ok (.istore 7, 2) := by decide +kernel
theorem dL_areAll_308 : decode cL_areAll 308 = .ok (.iconst 0, 1) := by decide +kernel
theorem dL_areAll_309 : decode cL_areAll 309 = .ok (.istore 8, 2) := by decide +kernel
theorem dL_areAll_311 : decode cL_areAll 311 = .ok (.iload 7, 2) := by decide +kernel
theorem dL_areAll_313 : decode cL_areAll 313 = .ok (.iconst (-1), 1) := by decide +kernel
theorem dL_areAll_314 : decode cL_areAll 314 = .ok (.if_icmp .ne 7, 3) := by decide +kernel
theorem dL_areAll_317 : decode cL_areAll 317 = .ok (.iconst 1, 1) := by decide +kernel
theorem dL_areAll_318 : decode cL_areAll 318 = .ok (.goto 4, 3) := by decide +kernel
theorem dL_areAll_321 : decode cL_areAll 321 = .ok (.iconst 0, 1) := by decide +kernel
theorem dL_areAll_322 : decode cL_areAll 322 = .ok (.istore 9, 2) := by decide +kernel
theorem dL_areAll_324 : decode cL_areAll 324 = .ok (.iconst 0, 1) := by decide +kernel
theorem dL_areAll_325 : decode cL_areAll 325 = .ok (.istore 10, 2) := by decide +kernel
theorem dL_areAll_327 : decode cL_areAll 327 = .ok (.iload 10, 2) := by decide +kernel
theorem dL_areAll_329 : decode cL_areAll 329 = .ok (.bipush 60, 2) := by decide +kernel
theorem dL_areAll_331 : decode cL_areAll 331 = .ok (.if_icmp .ge 151, 3) := by decide +kernel
theorem dL_areAll_334 : decode cL_areAll 334 = .ok (.iload 4, 2) := by decide +kernel
theorem dL_areAll_336 : decode cL_areAll 336 = .ok (.ifCond .eq 146, 3) := by decide +kernel
theorem dL_areAll_339 : decode cL_areAll 339 = .ok (.aload_n 2, 1) := by decide +kernel
theorem dL_areAll_340 : decode cL_areAll 340 = .ok (.iload 10, 2) := by decide +kernel
theorem dL_areAll_342 : decode cL_areAll 342 = .ok (.iaload, 1) := by decide +kernel
theorem dL_areAll_343 : decode cL_areAll 343 = .ok (.ifCond .lt 133, 3) := by decide +kernel
theorem dL_areAll_346 : decode cL_areAll 346 = .ok (.aload_n 2, 1) := by decide +kernel
theorem dL_areAll_347 : decode cL_areAll 347 = .ok (.iload 10, 2) := by decide +kernel
theorem dL_areAll_349 : decode cL_areAll 349 = .ok (.iaload, 1) := by decide +kernel
theorem dL_areAll_350 : decode cL_areAll 350 = .ok (.bipush 10, 2) := by decide +kernel
theorem dL_areAll_352 : decode cL_areAll 352 = .ok (.ishr, 1) := by decide +kernel
theorem dL_areAll_353 : decode cL_areAll 353 = .ok (.bipush 15, 2) := by decide +kernel
theorem dL_areAll_355 : decode cL_areAll 355 = .ok (.iand, 1) := by decide +kernel
theorem dL_areAll_356 : decode cL_areAll 356 = .ok (.iload 6, 2) := by decide +kernel
theorem dL_areAll_358 : decode cL_areAll 358 = .ok (.if_icmp .ne 118, 3) := by decide +kernel
theorem dL_areAll_361 : decode cL_areAll 361 = .ok (.bipush 100, 2) := by decide +kernel
theorem dL_areAll_363 : decode cL_areAll 363 = .ok (.iload 10, 2) := by decide +kernel
theorem dL_areAll_365 : decode cL_areAll 365 = .ok (.bipush 20, 2) := by decide +kernel
theorem dL_areAll_367 : decode cL_areAll 367 = .ok (.idiv, 1) := by decide +kernel
theorem dL_areAll_368 : decode cL_areAll 368 = .ok (.imul, 1) := by decide +kernel
theorem dL_areAll_369 : decode cL_areAll 369 = .ok (.iload 10, 2) := by decide +kernel
theorem dL_areAll_371 : decode cL_areAll 371 = .ok (.bipush 20, 2) := by decide +kernel
theorem dL_areAll_373 : decode cL_areAll 373 = .ok (.irem, 1) := by decide +kernel
theorem dL_areAll_374 : decode cL_areAll 374 = .ok (.iadd, 1) := by decide +kernel
theorem dL_areAll_375 : decode cL_areAll 375 = .ok (.istore 11, 2) := by decide +kernel
theorem dL_areAll_377 : decode cL_areAll 377 = .ok (.iinc 8 1, 3) := by decide +kernel
theorem dL_areAll_380 : decode cL_areAll 380 = .ok (.iload 9, 2) := by decide +kernel
theorem dL_areAll_382 : decode cL_areAll 382 = .ok (.ifCond .ne 10, 3) := by decide +kernel
theorem dL_areAll_385 : decode cL_areAll 385 = .ok (.iload 11, 2) := by decide +kernel
theorem dL_areAll_387 : decode cL_areAll 387 = .ok (.iload 7, 2) := by decide +kernel
theorem dL_areAll_389 : decode cL_areAll 389 = .ok (.if_icmp .ne 7, 3) := by decide +kernel
theorem dL_areAll_392 : decode cL_areAll 392 = .ok (.iconst 1, 1) := by decide +kernel
theorem dL_areAll_393 : decode cL_areAll 393 = .ok (.goto 4, 3) := by decide +kernel
theorem dL_areAll_396 : decode cL_areAll 396 = .ok (.iconst 0, 1) := by decide +kernel
theorem dL_areAll_397 : decode cL_areAll 397 = .ok (.istore 9, 2) := by decide +kernel
theorem dL_areAll_399 : decode cL_areAll 399 = .ok (.iload 7, 2) := by decide +kernel
theorem dL_areAll_401 : decode cL_areAll 401 = .ok (.ifCond .lt 72, 3) := by decide +kernel
theorem dL_areAll_404 : decode cL_areAll 404 = .ok (.aload_n 2, 1) := by decide +kernel
theorem dL_areAll_405 : decode cL_areAll 405 = .ok (.iload 10, 2) := by decide +kernel
theorem dL_areAll_407 : decode cL_areAll 407 = .ok (.iaload, 1) := by decide +kernel
theorem dL_areAll_408 : decode cL_areAll 408 = .ok (.invokestatic 83, 3) := by decide +kernel
theorem dL_areAll_411 : decode cL_areAll 411 = .ok (.aload_n 2, 1) := by decide +kernel
theorem dL_areAll_412 : decode cL_areAll 412 = .ok (.iload 7, 2) := by decide +kernel
theorem dL_areAll_414 : decode cL_areAll 414 = .ok (.bipush 100, 2) := by decide +kernel
theorem dL_areAll_416 : decode cL_areAll 416 = .ok (.idiv, 1) := by decide +kernel
theorem dL_areAll_417 : decode cL_areAll 417 = .ok (.bipush 20, 2) := by decide +kernel
theorem dL_areAll_419 : decode cL_areAll 419 = .ok (.imul, 1) := by decide +kernel
theorem dL_areAll_420 : decode cL_areAll 420 = .ok (.iload 7, 2) := by decide +kernel
theorem dL_areAll_422 : decode cL_areAll 422 = .ok (.bipush 100, 2) := by decide +kernel
theorem dL_areAll_424 : decode cL_areAll 424 = .ok (.irem, 1) := by decide +kernel
theorem dL_areAll_425 : decode cL_areAll 425 = .ok (.iadd, 1) := by decide +kernel
theorem dL_areAll_426 : decode cL_areAll 426 = .ok (.iaload, 1) := by decide +kernel
theorem dL_areAll_427 : decode cL_areAll 427 = .ok (.invokestatic 83, 3) := by decide +kernel
theorem dL_areAll_430 : decode cL_areAll 430 = .ok (.if_icmp .lt 39, 3) := by decide +kernel
theorem dL_areAll_433 : decode cL_areAll 433 = .ok (.aload_n 2, 1) := by decide +kernel
theorem dL_areAll_434 : decode cL_areAll 434 = .ok (.iload 10, 2) := by decide +kernel
theorem dL_areAll_436 : decode cL_areAll 436 = .ok (.iaload, 1) := by decide +kernel
theorem dL_areAll_437 : decode cL_areAll 437 = .ok (.invokestatic 83, 3) := by decide +kernel
theorem dL_areAll_440 : decode cL_areAll 440 = .ok (.aload_n 2, 1) := by decide +kernel
theorem dL_areAll_441 : decode cL_areAll 441 = .ok (.iload 7, 2) := by decide +kernel
theorem dL_areAll_443 : decode cL_areAll 443 = .ok (.bipush 100, 2) := by decide +kernel
theorem dL_areAll_445 : decode cL_areAll 445 = .ok (.idiv, 1) := by decide +kernel
theorem dL_areAll_446 : decode cL_areAll 446 = .ok (.bipush 20, 2) := by decide +kernel
theorem dL_areAll_448 : decode cL_areAll 448 = .ok (.imul, 1) := by decide +kernel
theorem dL_areAll_449 : decode cL_areAll 449 = .ok (.iload 7, 2) := by decide +kernel
theorem dL_areAll_451 : decode cL_areAll 451 = .ok (.bipush 100, 2) := by decide +kernel
theorem dL_areAll_453 : decode cL_areAll 453 = .ok (.irem, 1) := by decide +kernel
theorem dL_areAll_454 : decode cL_areAll 454 = .ok (.iadd, 1) := by decide +kernel
theorem dL_areAll_455 : decode cL_areAll 455 = .ok (.iaload, 1) := by decide +kernel
theorem dL_areAll_456 : decode cL_areAll 456 = .ok (.invokestatic 83, 3) := by decide +kernel
theorem dL_areAll_459 : decode cL_areAll 459 = .ok (.if_icmp .ne 14, 3) := by decide +kernel
theorem dL_areAll_462 : decode cL_areAll 462 = .ok (.iload 7, 2) := by decide +kernel
theorem dL_areAll_464 : decode cL_areAll 464 = .ok (.iload 11, 2) := by decide +kernel
theorem dL_areAll_466 : decode cL_areAll 466 = .ok (.if_icmp .gt 7, 3) := by decide +kernel
theorem dL_areAll_469 : decode cL_areAll 469 = .ok (.iconst 1, 1) := by decide +kernel
theorem dL_areAll_470 : decode cL_areAll 470 = .ok (.goto 4, 3) := by decide +kernel
theorem dL_areAll_473 : decode cL_areAll 473 = .ok (.iconst 0, 1) := by decide +kernel
theorem dL_areAll_474 : decode cL_areAll 474 = .ok (.istore 4, 2) := by decide +kernel
theorem dL_areAll_476 : decode cL_areAll 476 = .ok (.iinc 10 1, 3) := by decide +kernel
theorem dL_areAll_479 : decode cL_areAll 479 = .ok (.goto (-152), 3) := by decide +kernel
theorem dL_areAll_482 : decode cL_areAll 482 = .ok (.iload 5, 2) := by decide +kernel
theorem dL_areAll_484 : decode cL_areAll 484 = .ok (.iload 8, 2) := by decide +kernel
theorem dL_areAll_486 : decode cL_areAll 486 = .ok (.iadd, 1) := by decide +kernel
theorem dL_areAll_487 : decode cL_areAll 487 = .ok (.istore 5, 2) := by decide +kernel
theorem dL_areAll_489 : decode cL_areAll 489 = .ok (.iload 4, 2) := by decide +kernel
theorem dL_areAll_491 : decode cL_areAll 491 = .ok (.ifCond .eq 46, 3) := by decide +kernel
theorem dL_areAll_494 : decode cL_areAll 494 = .ok (.iload 9, 2) := by decide +kernel
theorem dL_areAll_496 : decode cL_areAll 496 = .ok (.ifCond .eq 41, 3) := by decide +kernel
theorem dL_areAll_499 : decode cL_areAll 499 = .ok (.aload_n 0, 1) := by decide +kernel
theorem dL_areAll_500 : decode cL_areAll 500 = .ok (.iload 6, 2) := by decide +kernel
theorem dL_areAll_502 : decode cL_areAll 502 = .ok (.invokevirtual 61, 3) := by decide +kernel
theorem dL_areAll_505 : decode cL_areAll 505 = .ok (.iload 8, 2) := by decide +kernel
theorem dL_areAll_507 : decode cL_areAll 507 = .ok (.if_icmp .ne 30, 3) := by decide +kernel
theorem dL_areAll_510 : decode cL_areAll 510 = .ok (.iload 7, 2) := by decide +kernel
theorem dL_areAll_512 : decode cL_areAll 512 = .ok (.ifCond .ge 7, 3) := by decide +kernel
theorem dL_areAll_515 : decode cL_areAll 515 = .ok (.iconst 1, 1) := by decide +kernel
theorem dL_areAll_516 : decode cL_areAll 516 = .ok (.goto 4, 3) := by decide +kernel
theorem dL_areAll_519 : decode cL_areAll 519 = .ok (.iconst 0, 1) := by decide +kernel
theorem dL_areAll_520 : decode cL_areAll 520 = .ok (.iload 8, 2) := by decide +kernel
theorem dL_areAll_522 : decode cL_areAll 522 = .ok (.ifCond .ne 7, 3) := by decide +kernel
theorem dL_areAll_525 : decode cL_areAll 525 = .ok (.iconst 1, 1) := by decide +kernel
theorem dL_areAll_526 : decode cL_areAll 526 = .ok (.goto 4, 3) := by decide +kernel
theorem dL_areAll_529 : decode cL_areAll 529 = .ok (.iconst 0, 1) := by decide +kernel
theorem dL_areAll_530 : decode cL_areAll 530 = .ok (.if_icmp .ne 7, 3) := by decide +kernel
theorem dL_areAll_533 : decode cL_areAll 533 = .ok (.iconst 1, 1) := by decide +kernel
theorem dL_areAll_534 : decode cL_areAll 534 = .ok (.goto 4, 3) := by decide +kernel
theorem dL_areAll_537 : decode cL_areAll 537 = .ok (.iconst 0, 1) := by decide +kernel
theorem dL_areAll_538 : decode cL_areAll 538 = .ok (.istore 4, 2) := by decide +kernel
theorem dL_areAll_540 : decode cL_areAll 540 = .ok (.iinc 6 1, 3) := by decide +kernel
theorem dL_areAll_543 : decode cL_areAll 543 = .ok (.goto (-255), 3) := by decide +kernel
theorem dL_areAll_546 : decode cL_areAll 546 = .ok (.iload 4, 2) := by decide +kernel
theorem dL_areAll_548 : decode cL_areAll 548 = .ok (.ifCond .eq 37, 3) := by decide +kernel
theorem dL_areAll_551 : decode cL_areAll 551 = .ok (.iload 5, 2) := by decide +kernel
theorem dL_areAll_553 : decode cL_areAll 553 = .ok (.aload_n 0, 1) := by decide +kernel
theorem dL_areAll_554 : decode cL_areAll 554 = .ok (.iconst 0, 1) := by decide +kernel
theorem dL_areAll_555 : decode cL_areAll 555 = .ok (.invokevirtual 55, 3) := by decide +kernel
theorem dL_areAll_558 : decode cL_areAll 558 = .ok (.aload_n 0, 1) := by decide +kernel
theorem dL_areAll_559 : decode cL_areAll 559 = .ok (.iconst 1, 1) := by decide +kernel
theorem dL_areAll_560 : decode cL_areAll 560 = .ok (.invokevirtual 55, 3) := by decide +kernel
theorem dL_areAll_563 : decode cL_areAll 563 = .ok (.iadd, 1) := by decide +kernel
theorem dL_areAll_564 : decode cL_areAll 564 = .ok (.aload_n 0, 1) := by decide +kernel
theorem dL_areAll_565 : decode cL_areAll 565 = .ok (.iconst 2, 1) := by decide +kernel
theorem dL_areAll_566 : decode cL_areAll 566 = .ok (.invokevirtual 55, 3) := by decide +kernel
theorem dL_areAll_569 : decode cL_areAll 569 = .ok (.iadd, 1) := by decide +kernel
theorem dL_areAll_570 : decode cL_areAll 570 = .ok (.if_icmp .ne 15, 3) := by decide +kernel
theorem dL_areAll_573 : decode cL_areAll 573 = .ok (.aload_n 0, 1) := by decide +kernel
theorem dL_areAll_574 : decode cL_areAll 574 = .ok (.iconst 3, 1) := by decide +kernel
theorem dL_areAll_575 : decode cL_areAll 575 = .ok (.invokevirtual 27, 3) := by decide +kernel
theorem dL_areAll_578 : decode cL_areAll 578 = .ok (.ifCond .ne 7, 3) := by decide +kernel
theorem dL_areAll_581 : decode cL_areAll 581 = .ok (.iconst 1, 1) := by decide +kernel
theorem dL_areAll_582 : decode cL_areAll 582 = .ok (.goto 4, 3) := by decide +kernel
theorem dL_areAll_585 : decode cL_areAll 585 = .ok (.iconst 0, 1) := by decide +kernel
theorem dL_areAll_586 : decode cL_areAll 586 = .ok (.ireturn, 1) := by decide +kernel
