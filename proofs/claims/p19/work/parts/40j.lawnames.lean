set_option maxRecDepth 20000 in
theorem ggL_isPage_L_near : GoodIn wsL_isPage wsL_near := goodIn_ca (goodIn_ca (goodIn_r _ [4, 5, 6, 7, 8, 9, 10, 11, 12, 13, 14, 15, 16, 17, 18, 19, 20, 21, 22, 23, 24, 25, 26, 27, 28, 29, 30, 31, 32, 33, 34, 35, 36, 37, 38, 39, 40, 41, 42, 43, 44, 45, 46, 47, 48, 49, 50, 51, 52, 53, 54, 55, 56, 57, 58, 59, 60, 61, 62, 63, 64, 65, 66, 67, 68, 69, 70, 71, 72, 73, 74, 75, 76, 77, 78, 79, 80, 81, 82, 83, 84, 85, 86, 87, 88, 89, 90, 91, 92, 93, 94, 95, 96, 97, 98, 99, 100, 101, 102, 103, 104, 105, 106, 107, 108, 109, 110, 111, 112, 113, 114, 115, 116, 117, 118, 119, 120, 121, 122, 123, 124, 125, 126, 127, 128, 129, 130, 131, 132, 133, 134, 135, 136, 137, 138, 139, 140, 141, 142, 143, 144, 145, 146, 147, 148, 149, 150, 151, 152, 153, 154, 155, 156, 157, 158, 159, 160, 161, 162, 163, 164, 165, 166, 167, 168, 169, 170, 171, 172, 173, 174, 175, 176, 177, 178, 179, 180, 181, 182, 183, 184, 185, 186, 187, 188] (by decide +kernel) (by decide +kernel)) (goodIn_sub (fun _ h => List.mem_cons_of_mem _ (List.mem_append_left _ (List.mem_append_right _ h))) (by decide +kernel))) (goodIn_sub (fun _ h => List.mem_cons_of_mem _ (List.mem_append_right _ h)) (by decide +kernel))
set_option maxRecDepth 20000 in
theorem gL_isPage_L_near : GoodIn wsL_isPage (va_wsS RL 95 yL_near wsL_near) := goodIn_app (goodIn_of _ (by decide +kernel)) ggL_isPage_L_near
set_option maxRecDepth 20000 in
theorem ggL_isPage_X3_mark : GoodIn wsL_isPage wsX3_mark := goodIn_ca (goodIn_r _ [113, 114, 13, 14, 15, 10, 16, 17, 18, 19, 169, 170, 171, 172, 173, 174, 175, 176, 177, 178, 167, 168] (by decide +kernel) (by decide +kernel)) (goodIn_sub (fun _ h => List.mem_cons_of_mem _ (List.mem_append_left _ (List.mem_append_right _ h))) (by decide +kernel))
set_option maxRecDepth 20000 in
theorem gL_isPage_X3_mark : GoodIn wsL_isPage (wsV RL 48 RX3 yX3_mark wsX3_mark) := goodIn_app (goodIn_of _ (by decide +kernel)) ggL_isPage_X3_mark
set_option maxRecDepth 20000 in
theorem ggL_isPage_X3_wrong : GoodIn wsL_isPage wsX3_wrong := goodIn_ca (goodIn_r _ [139, 119, 140, 141, 13, 14, 15, 10, 16, 17, 18, 19, 142, 143, 144, 83, 145, 146, 147, 148, 149, 85, 86, 87, 88, 169, 170, 171, 172, 173, 174, 175, 176, 177, 178, 179, 180, 181, 182, 183, 184, 167, 168, 185, 186, 187, 188] (by decide +kernel) (by decide +kernel)) (goodIn_sub (fun _ h => List.mem_cons_of_mem _ (List.mem_append_left _ (List.mem_append_right _ h))) (by decide +kernel))
set_option maxRecDepth 20000 in
theorem gL_isPage_X3_wrong : GoodIn wsL_isPage (wsV RL 58 RX3 yX3_wrong wsX3_wrong) := goodIn_app (goodIn_of _ (by decide +kernel)) ggL_isPage_X3_wrong
set_option maxRecDepth 20000 in
theorem ggL_isPage_X3_read : GoodIn wsL_isPage wsX3_read := goodIn_ca (goodIn_ca (goodIn_r _ [40, 41, 42, 43, 12, 13, 14, 15, 10, 16, 17, 18, 19, 44, 45, 46, 23, 47, 28, 26, 48, 21, 22, 24, 25, 27, 29, 30, 31, 49, 50, 51, 52, 53, 54, 33, 34, 35, 36, 55, 56, 57, 58, 59, 60, 61, 62, 63, 64, 65, 66, 67, 68, 69, 70, 71, 72, 73, 74, 75, 76, 77, 78, 79, 80, 81, 82, 83, 84, 85, 86, 87, 88, 89, 90, 91, 92, 93, 94, 95, 96, 97, 98, 99, 100, 101, 102, 103, 104, 105, 169, 170, 171, 172, 173, 174, 175, 176, 177, 178, 167, 168, 179, 180, 181, 182, 183, 184, 185, 186, 187, 188] (by decide +kernel) (by decide +kernel)) (goodIn_sub (fun _ h => List.mem_cons_of_mem _ (List.mem_append_right _ h)) (by decide +kernel))) (goodIn_sub (fun _ h => List.mem_cons_of_mem _ (List.mem_append_left _ (List.mem_append_right _ h))) (by decide +kernel))
set_option maxRecDepth 20000 in
theorem gL_isPage_X3_read : GoodIn wsL_isPage (wsV RL 41 RX3 yX3_read wsX3_read) := goodIn_app (goodIn_of _ (by decide +kernel)) ggL_isPage_X3_read
set_option maxRecDepth 20000 in
theorem ggL_isPage_X3_isOpen : GoodIn wsL_isPage wsX3_isOpen := goodIn_ca (goodIn_r _ [109, 43, 13, 14, 15, 10, 16, 17, 18, 19, 169, 170, 171, 172, 173, 174, 175, 176, 177, 178, 167, 168] (by decide +kernel) (by decide +kernel)) (goodIn_sub (fun _ h => List.mem_cons_of_mem _ (List.mem_append_left _ (List.mem_append_right _ h))) (by decide +kernel))
set_option maxRecDepth 20000 in
theorem gL_isPage_X3_isOpen : GoodIn wsL_isPage (wsV RL 44 RX3 yX3_isOpen wsX3_isOpen) := goodIn_app (goodIn_of _ (by decide +kernel)) ggL_isPage_X3_isOpen
set_option maxRecDepth 20000 in
theorem ggL_isPage_X3_stored : GoodIn wsL_isPage wsX3_stored := goodIn_ca (goodIn_r _ [118, 119, 120, 121, 13, 14, 15, 10, 16, 17, 18, 19, 122, 123, 124, 125, 126, 127, 169, 170, 171, 172, 173, 174, 175, 176, 177, 178, 185, 186, 187, 188, 167, 168] (by decide +kernel) (by decide +kernel)) (goodIn_sub (fun _ h => List.mem_cons_of_mem _ (List.mem_append_left _ (List.mem_append_right _ h))) (by decide +kernel))
set_option maxRecDepth 20000 in
theorem gL_isPage_X3_stored : GoodIn wsL_isPage (wsV RL 51 RX3 yX3_stored wsX3_stored) := goodIn_app (goodIn_of _ (by decide +kernel)) ggL_isPage_X3_stored
theorem dL_isPage_0 : decode cL_isPage 0 = .ok (.aload_n 3, 1) := by decide +kernel
theorem dL_isPage_1 : decode cL_isPage 1 = .ok (.iconst 4, 1) := by decide +kernel
theorem dL_isPage_2 : decode cL_isPage 2 = .ok (.iload 4, 2) := by decide +kernel
theorem dL_isPage_4 : decode cL_isPage 4 = .ok (.imul, 1) := by decide +kernel
theorem dL_isPage_5 : decode cL_isPage 5 = .ok (.iconst 2, 1) := by decide +kernel
theorem dL_isPage_6 : decode cL_isPage 6 = .ok (.iadd, 1) := by decide +kernel
theorem dL_isPage_7 : decode cL_isPage 7 = .ok (.iaload, 1) := by decide +kernel
theorem dL_isPage_8 : decode cL_isPage 8 = .ok (.ifCond .ne 23, 3) := by decide +kernel
theorem dL_isPage_11 : decode cL_isPage 11 = .ok (.aload_n 0, 1) := by decide +kernel
theorem dL_isPage_12 : decode cL_isPage 12 = .ok (.iconst 1, 1) := by decide +kernel
theorem dL_isPage_13 : decode cL_isPage 13 = .ok (.iload 4, 2) := by decide +kernel
theorem dL_isPage_15 : decode cL_isPage 15 = .ok (.iconst 0, 1) := by decide +kernel
theorem dL_isPage_16 : decode cL_isPage 16 = .ok (.invokestatic 95, 3) := by decide +kernel
theorem dL_isPage_19 : decode cL_isPage 19 = .ok (.sipush (-993), 3) := by decide +kernel
theorem dL_isPage_22 : decode cL_isPage 22 = .ok (.if_icmp .ne 7, 3) := by decide +kernel
theorem dL_isPage_25 : decode cL_isPage 25 = .ok (.iconst 1, 1) := by decide +kernel
theorem dL_isPage_26 : decode cL_isPage 26 = .ok (.goto 4, 3) := by decide +kernel
theorem dL_isPage_29 : decode cL_isPage 29 = .ok (.iconst 0, 1) := by decide +kernel
theorem dL_isPage_30 : decode cL_isPage 30 = .ok (.ireturn, 1) := by decide +kernel
theorem dL_isPage_31 : decode cL_isPage 31 = .ok (.aload_n 0, 1) := by decide +kernel
theorem dL_isPage_32 : decode cL_isPage 32 = .ok (.iload 4, 2) := by decide +kernel
theorem dL_isPage_34 : decode cL_isPage 34 = .ok (.invokevirtual 48, 3) := by decide +kernel
theorem dL_isPage_37 : decode cL_isPage 37 = .ok (.istore 5, 2) := by decide +kernel
theorem dL_isPage_39 : decode cL_isPage 39 = .ok (.aload_n 0, 1) := by decide +kernel
theorem dL_isPage_40 : decode cL_isPage 40 = .ok (.iload 4, 2) := by decide +kernel
theorem dL_isPage_42 : decode cL_isPage 42 = .ok (.invokevirtual 58, 3) := by decide +kernel
theorem dL_isPage_45 : decode cL_isPage 45 = .ok (.istore 6, 2) := by decide +kernel
theorem dL_isPage_47 : decode cL_isPage 47 = .ok (.aload_n 0, 1) := by decide +kernel
theorem dL_isPage_48 : decode cL_isPage 48 = .ok (.iload 4, 2) := by decide +kernel
theorem dL_isPage_50 : decode cL_isPage 50 = .ok (.invokevirtual 41, 3) := by decide +kernel
theorem dL_isPage_53 : decode cL_isPage 53 = .ok (.istore 7, 2) := by decide +kernel
theorem dL_isPage_55 : decode cL_isPage 55 = .ok (.iconst 0, 1) := by decide +kernel
theorem dL_isPage_56 : decode cL_isPage 56 = .ok (.istore 8, 2) := by decide +kernel
theorem dL_isPage_58 : decode cL_isPage 58 = .ok (.aload_n 0, 1) := by decide +kernel
theorem dL_isPage_59 : decode cL_isPage 59 = .ok (.iload 4, 2) := by decide +kernel
theorem dL_isPage_61 : decode cL_isPage 61 = .ok (.invokevirtual 44, 3) := by decide +kernel
theorem dL_isPage_64 : decode cL_isPage 64 = .ok (.ifCond .ne 7, 3) := by decide +kernel
theorem dL_isPage_67 : decode cL_isPage 67 = .ok (.iconst 1, 1) := by decide +kernel
theorem dL_isPage_68 : decode cL_isPage 68 = .ok (.goto 4, 3) := by decide +kernel
theorem dL_isPage_71 : decode cL_isPage 71 = .ok (.iconst 0, 1) := by decide +kernel
theorem dL_isPage_72 : decode cL_isPage 72 = .ok (.istore 9, 2) := by decide +kernel
theorem dL_isPage_74 : decode cL_isPage 74 = .ok (.aload_n 3, 1) := by decide +kernel
theorem dL_isPage_75 : decode cL_isPage 75 = .ok (.iconst 4, 1) := by decide +kernel
theorem dL_isPage_76 : decode cL_isPage 76 = .ok (.iload 4, 2) := by decide +kernel
theorem dL_isPage_78 : decode cL_isPage 78 = .ok (.imul, 1) := by decide +kernel
theorem dL_isPage_79 : decode cL_isPage 79 = .ok (.iconst 2, 1) := by decide +kernel
theorem dL_isPage_80 : decode cL_isPage 80 = .ok (.iadd, 1) := by decide +kernel
theorem dL_isPage_81 : decode cL_isPage 81 = .ok (.iaload, 1) := by decide +kernel
theorem dL_isPage_82 : decode cL_isPage 82 = .ok (.iconst 2, 1) := by decide +kernel
theorem dL_isPage_83 : decode cL_isPage 83 = .ok (.if_icmp .ne 7, 3) := by decide +kernel
theorem dL_isPage_86 : decode cL_isPage 86 = .ok (.iconst 1, 1) := by decide +kernel
theorem dL_isPage_87 : decode cL_isPage 87 = .ok (.goto 4, 3) := by decide +kernel
theorem dL_isPage_90 : decode cL_isPage 90 = .ok (.iconst 0, 1) := by decide +kernel
theorem dL_isPage_91 : decode cL_isPage 91 = .ok (.istore 10, 2) := by decide +kernel
theorem dL_isPage_93 : decode cL_isPage 93 = .ok (.iload 7, 2) := by decide +kernel
theorem dL_isPage_95 : decode cL_isPage 95 = .ok (.ifCond .lt 24, 3) := by decide +kernel
theorem dL_isPage_98 : decode cL_isPage 98 = .ok (.iload 7, 2) := by decide +kernel
theorem dL_isPage_100 : decode cL_isPage 100 = .ok (.iconst 3, 1) := by decide +kernel
theorem dL_isPage_101 : decode cL_isPage 101 = .ok (.if_icmp .gt 18, 3) := by decide +kernel
theorem dL_isPage_104 : decode cL_isPage 104 = .ok (.iload 9, 2) := by decide +kernel
theorem dL_isPage_106 : decode cL_isPage 106 = .ok (.ifCond .ne 9, 3) := by decide +kernel
theorem dL_isPage_109 : decode cL_isPage 109 = .ok (.iload 7, 2) := by decide +kernel
theorem dL_isPage_111 : decode cL_isPage 111 = .ok (.iconst 3, 1) := by decide +kernel
theorem dL_isPage_112 : decode cL_isPage 112 = .ok (.if_icmp .ne 7, 3) := by decide +kernel
theorem dL_isPage_115 : decode cL_isPage 115 = .ok (.iconst 1, 1) := by decide +kernel
theorem dL_isPage_116 : decode cL_isPage 116 = .ok (.goto 4, 3) := by decide +kernel
theorem dL_isPage_119 : decode cL_isPage 119 = .ok (.iconst 0, 1) := by decide +kernel
theorem dL_isPage_120 : decode cL_isPage 120 = .ok (.istore 11, 2) := by decide +kernel
theorem dL_isPage_122 : decode cL_isPage 122 = .ok (.bipush 20, 2) := by decide +kernel
theorem dL_isPage_124 : decode cL_isPage 124 = .ok (.iload 4, 2) := by decide +kernel
theorem dL_isPage_126 : decode cL_isPage 126 = .ok (.imul, 1) := by decide +kernel
theorem dL_isPage_127 : decode cL_isPage 127 = .ok (.istore 12, 2) := by decide +kernel
theorem dL_isPage_129 : decode cL_isPage 129 = .ok (.iload 12, 2) := by decide +kernel
theorem dL_isPage_131 : decode cL_isPage 131 = .ok (.bipush 20, 2) := by decide +kernel
theorem dL_isPage_133 : decode cL_isPage 133 = .ok (.iload 4, 2) := by decide +kernel
theorem dL_isPage_135 : decode cL_isPage 135 = .ok (.imul, 1) := by decide +kernel
theorem dL_isPage_136 : decode cL_isPage 136 = .ok (.bipush 20, 2) := by decide +kernel
theorem dL_isPage_138 : decode cL_isPage 138 = .ok (.iadd, 1) := by decide +kernel
theorem dL_isPage_139 : decode cL_isPage 139 = .ok (.if_icmp .ge 123, 3) := by decide +kernel
theorem dL_isPage_142 : decode cL_isPage 142 = .ok (.iload 11, 2) := by decide +kernel
theorem dL_isPage_144 : decode cL_isPage 144 = .ok (.ifCond .eq 118, 3) := by decide +kernel
theorem dL_isPage_147 : decode cL_isPage 147 = .ok (.aload_n 0, 1) := by decide +kernel
theorem dL_isPage_148 : decode cL_isPage 148 = .ok (.iload 4, 2) := by decide +kernel
theorem dL_isPage_150 : decode cL_isPage 150 = .ok (.iload 12, 2) := by decide +kernel
theorem dL_isPage_152 : decode cL_isPage 152 = .ok (.bipush 20, 2) := by decide +kernel
theorem dL_isPage_154 : decode cL_isPage 154 = .ok (.irem, 1) := by decide +kernel
theorem dL_isPage_155 : decode cL_isPage 155 = .ok (.invokevirtual 51, 3) := by decide +kernel
theorem dL_isPage_158 : decode cL_isPage 158 = .ok (.istore 13, 2) := by decide +kernel
theorem dL_isPage_160 : decode cL_isPage 160 = .ok (.aload_n 1, 1) := by decide +kernel
theorem dL_isPage_161 : decode cL_isPage 161 = .ok (.iload 12, 2) := by decide +kernel
theorem dL_isPage_163 : decode cL_isPage 163 = .ok (.iaload, 1) := by decide +kernel
theorem dL_isPage_164 : decode cL_isPage 164 = .ok (.ifCond .ge 7, 3) := by decide +kernel
theorem dL_isPage_167 : decode cL_isPage 167 = .ok (.iconst (-1), 1) := by decide +kernel
theorem dL_isPage_168 : decode cL_isPage 168 = .ok (.goto 11, 3) := by decide +kernel
theorem dL_isPage_171 : decode cL_isPage 171 = .ok (.aload_n 1, 1) := by decide +kernel
theorem dL_isPage_172 : decode cL_isPage 172 = .ok (.iload 12, 2) := by decide +kernel
theorem dL_isPage_174 : decode cL_isPage 174 = .ok (.iaload, 1) := by decide +kernel
theorem dL_isPage_175 : decode cL_isPage 175 = .ok (.sipush 1023, 3) := by decide +kernel
theorem dL_isPage_178 : decode cL_isPage 178 = .ok (.iand, 1) := by decide +kernel
theorem dL_isPage_179 : decode cL_isPage 179 = .ok (.istore 14, 2) := by decide +kernel
theorem dL_isPage_181 : decode cL_isPage 181 = .ok (.aload_n 2, 1) := by decide +kernel
theorem dL_isPage_182 : decode cL_isPage 182 = .ok (.iload 12, 2) := by decide +kernel
theorem dL_isPage_184 : decode cL_isPage 184 = .ok (.iaload, 1) := by decide +kernel
theorem dL_isPage_185 : decode cL_isPage 185 = .ok (.ifCond .ge 7, 3) := by decide +kernel
theorem dL_isPage_188 : decode cL_isPage 188 = .ok (.iconst (-1), 1) := by decide +kernel
theorem dL_isPage_189 : decode cL_isPage 189 = .ok (.goto 11, 3) := by decide +kernel
theorem dL_isPage_192 : decode cL_isPage 192 = .ok (.aload_n 2, 1) := by decide +kernel
theorem dL_isPage_193 : decode cL_isPage 193 = .ok (.iload 12, 2) := by decide +kernel
theorem dL_isPage_195 : decode cL_isPage 195 = .ok (.iaload, 1) := by decide +kernel
theorem dL_isPage_196 : decode cL_isPage 196 = .ok (.sipush 1023, 3) := by decide +kernel
theorem dL_isPage_199 : decode cL_isPage 199 = .ok (.iand, 1) := by decide +kernel
theorem dL_isPage_200 : decode cL_isPage 200 = .ok (.istore 15, 2) := by decide +kernel
theorem dL_isPage_202 : decode cL_isPage 202 = .ok (.iload 13, 2) := by decide +kernel
theorem dL_isPage_204 : decode cL_isPage 204 = .ok (.iload 14, 2) := by decide +kernel
theorem dL_isPage_206 : decode cL_isPage 206 = .ok (.if_icmp .eq 26, 3) := by decide +kernel
theorem dL_isPage_209 : decode cL_isPage 209 = .ok (.iload 13, 2) := by decide +kernel
theorem dL_isPage_211 : decode cL_isPage 211 = .ok (.iload 15, 2) := by decide +kernel
theorem dL_isPage_213 : decode cL_isPage 213 = .ok (.if_icmp .eq 19, 3) := by decide +kernel
theorem dL_isPage_216 : decode cL_isPage 216 = .ok (.iload 9, 2) := by decide +kernel
theorem dL_isPage_218 : decode cL_isPage 218 = .ok (.ifCond .eq 18, 3) := by decide +kernel
theorem dL_isPage_221 : decode cL_isPage 221 = .ok (.iload 10, 2) := by decide +kernel
theorem dL_isPage_223 : decode cL_isPage 223 = .ok (.ifCond .eq 13, 3) := by decide +kernel
theorem dL_isPage_226 : decode cL_isPage 226 = .ok (.iload 13, 2) := by decide +kernel
theorem dL_isPage_228 : decode cL_isPage 228 = .ok (.iconst (-1), 1) := by decide +kernel
theorem dL_isPage_229 : decode cL_isPage 229 = .ok (.if_icmp .ne 7, 3) := by decide +kernel
theorem dL_isPage_232 : decode cL_isPage 232 = .ok (.iconst 1, 1) := by decide +kernel
theorem dL_isPage_233 : decode cL_isPage 233 = .ok (.goto 4, 3) := by decide +kernel
theorem dL_isPage_236 : decode cL_isPage 236 = .ok (.iconst 0, 1) := by decide +kernel
theorem dL_isPage_237 : decode cL_isPage 237 = .ok (.istore 11, 2) := by decide +kernel
theorem dL_isPage_239 : decode cL_isPage 239 = .ok (.iload 8, 2) := by decide +kernel
theorem dL_isPage_241 : decode cL_isPage 241 = .ok (.iload 13, 2) := by decide +kernel
theorem dL_isPage_243 : decode cL_isPage 243 = .ok (.iload 15, 2) := by decide +kernel
theorem dL_isPage_245 : decode cL_isPage 245 = .ok (.if_icmp .eq 7, 3) := by decide +kernel
theorem dL_isPage_248 : decode cL_isPage 248 = .ok (.iconst 1, 1) := by decide +kernel
theorem dL_isPage_249 : decode cL_isPage 249 = .ok (.goto 4, 3) := by decide +kernel
theorem dL_isPage_252 : decode cL_isPage 252 = .ok (.iconst 0, 1) := by decide +kernel
theorem dL_isPage_253 : decode cL_isPage 253 = .ok (.iadd, 1) := by decide +kernel
theorem dL_isPage_254 : decode cL_isPage 254 = .ok (.istore 8, 2) := by decide +kernel
theorem dL_isPage_256 : decode cL_isPage 256 = .ok (.iinc 12 1, 3) := by decide +kernel
theorem dL_isPage_259 : decode cL_isPage 259 = .ok (.goto (-130), 3) := by decide +kernel
theorem dL_isPage_262 : decode cL_isPage 262 = .ok (.iload 11, 2) := by decide +kernel
theorem dL_isPage_264 : decode cL_isPage 264 = .ok (.ifCond .eq 75, 3) := by decide +kernel
theorem dL_isPage_267 : decode cL_isPage 267 = .ok (.iload 9, 2) := by decide +kernel
theorem dL_isPage_269 : decode cL_isPage 269 = .ok (.ifCond .eq 8, 3) := by decide +kernel
theorem dL_isPage_272 : decode cL_isPage 272 = .ok (.iload 10, 2) := by decide +kernel
theorem dL_isPage_274 : decode cL_isPage 274 = .ok (.ifCond .ne 10, 3) := by decide +kernel
theorem dL_isPage_277 : decode cL_isPage 277 = .ok (.iload 8, 2) := by decide +kernel
theorem dL_isPage_279 : decode cL_isPage 279 = .ok (.iload 7, 2) := by decide +kernel
theorem dL_isPage_281 : decode cL_isPage 281 = .ok (.if_icmp .gt 58, 3) := by decide +kernel
theorem dL_isPage_284 : decode cL_isPage 284 = .ok (.iload 9, 2) := by decide +kernel
theorem dL_isPage_286 : decode cL_isPage 286 = .ok (.ifCond .ne 14, 3) := by decide +kernel
theorem dL_isPage_289 : decode cL_isPage 289 = .ok (.aload_n 0, 1) := by decide +kernel
theorem dL_isPage_290 : decode cL_isPage 290 = .ok (.iload 4, 2) := by decide +kernel
theorem dL_isPage_292 : decode cL_isPage 292 = .ok (.invokevirtual 48, 3) := by decide +kernel
theorem dL_isPage_295 : decode cL_isPage 295 = .ok (.iload 5, 2) := by decide +kernel
theorem dL_isPage_297 : decode cL_isPage 297 = .ok (.if_icmp .ne 42, 3) := by decide +kernel
theorem dL_isPage_300 : decode cL_isPage 300 = .ok (.iload 9, 2) := by decide +kernel
theorem dL_isPage_302 : decode cL_isPage 302 = .ok (.ifCond .eq 8, 3) := by decide +kernel
theorem dL_isPage_305 : decode cL_isPage 305 = .ok (.iload 10, 2) := by decide +kernel
theorem dL_isPage_307 : decode cL_isPage 307 = .ok (.ifCond .ne 28, 3) := by decide +kernel
theorem dL_isPage_310 : decode cL_isPage 310 = .ok (.aload_n 0, 1) := by decide +kernel
theorem dL_isPage_311 : decode cL_isPage 311 = .ok (.iload 4, 2) := by decide +kernel
theorem dL_isPage_313 : decode cL_isPage 313 = .ok (.invokevirtual 58, 3) := by decide +kernel
theorem dL_isPage_316 : decode cL_isPage 316 = .ok (.iload 6, 2) := by decide +kernel
theorem dL_isPage_318 : decode cL_isPage 318 = .ok (.if_icmp .gt 21, 3) := by decide +kernel
theorem dL_isPage_321 : decode cL_isPage 321 = .ok (.aload_n 0, 1) := by decide +kernel
theorem dL_isPage_322 : decode cL_isPage 322 = .ok (.iload 4, 2) := by decide +kernel
theorem dL_isPage_324 : decode cL_isPage 324 = .ok (.invokevirtual 58, 3) := by decide +kernel
theorem dL_isPage_327 : decode cL_isPage 327 = .ok (.iload 6, 2) := by decide +kernel
theorem dL_isPage_329 : decode cL_isPage 329 = .ok (.iload 7, 2) := by decide +kernel
theorem dL_isPage_331 : decode cL_isPage 331 = .ok (.isub, 1) := by decide +kernel
theorem dL_isPage_332 : decode cL_isPage 332 = .ok (.if_icmp .lt 7, 3) := by decide +kernel
theorem dL_isPage_335 : decode cL_isPage 335 = .ok (.iconst 1, 1) := by decide +kernel
theorem dL_isPage_336 : decode cL_isPage 336 = .ok (.goto 4, 3) := by decide +kernel
theorem dL_isPage_339 : decode cL_isPage 339 = .ok (.iconst 0, 1) := by decide +kernel
theorem dL_isPage_340 : decode cL_isPage 340 = .ok (.istore 11, 2) := by decide +kernel
theorem dL_isPage_342 : decode cL_isPage 342 = .ok (.aload_n 3, 1) := by decide +kernel
theorem dL_isPage_343 : decode cL_isPage 343 = .ok (.iconst 4, 1) := by decide +kernel
theorem dL_isPage_344 : decode cL_isPage 344 = .ok (.iload 4, 2) := by decide +kernel
theorem dL_isPage_346 : decode cL_isPage 346 = .ok (.imul, 1) := by decide +kernel
theorem dL_isPage_347 : decode cL_isPage 347 = .ok (.iconst 2, 1) := by decide +kernel
theorem dL_isPage_348 : decode cL_isPage 348 = .ok (.iadd, 1) := by decide +kernel
theorem dL_isPage_349 : decode cL_isPage 349 = .ok (.iload 9, 2) := by decide +kernel
theorem dL_isPage_351 : decode cL_isPage 351 = .ok (.ifCond .eq 7, 3) := by decide +kernel
theorem dL_isPage_354 : decode cL_isPage 354 = .ok (.iconst 0, 1) := by decide +kernel
theorem dL_isPage_355 : decode cL_isPage 355 = .ok (.goto 11, 3) := by decide +kernel
theorem dL_isPage_358 : decode cL_isPage 358 = .ok (.aload_n 3, 1) := by decide +kernel
theorem dL_isPage_359 : decode cL_isPage 359 = .ok (.iconst 4, 1) := by decide +kernel
theorem dL_isPage_360 : decode cL_isPage 360 = .ok (.iload 4, 2) := by decide +kernel
theorem dL_isPage_362 : decode cL_isPage 362 = .ok (.imul, 1) := by decide +kernel
theorem dL_isPage_363 : decode cL_isPage 363 = .ok (.iconst 2, 1) := by decide +kernel
theorem dL_isPage_364 : decode cL_isPage 364 = .ok (.iadd, 1) := by decide +kernel
theorem dL_isPage_365 : decode cL_isPage 365 = .ok (.iaload, 1) := by decide +kernel
theorem dL_isPage_366 : decode cL_isPage 366 = .ok (.iastore, 1) := by decide +kernel
theorem dL_isPage_367 : decode cL_isPage 367 = .ok (.iload 11, 2) := by decide +kernel
theorem dL_isPage_369 : decode cL_isPage 369 = .ok (.ireturn, 1) := by decide +kernel
