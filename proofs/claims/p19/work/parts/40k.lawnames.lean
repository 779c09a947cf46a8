set_option maxRecDepth 20000 in
theorem ggL_isKnown_L_isRound : GoodIn wsL_isKnown wsL_isRound := goodIn_ca (goodIn_ca (goodIn_r _ [4, 5, 6, 7, 8, 9, 10, 11, 12, 13, 14, 15, 16, 17, 18, 19, 3, 20, 21, 22, 23, 24, 25, 26, 27, 28, 29, 30, 31, 32, 33, 34, 35, 36, 37, 38, 39, 40, 41, 42, 43, 44, 45, 46, 47, 48, 49, 50, 51, 52, 53, 54, 55, 56, 57, 58, 59, 60, 61, 62, 63, 64, 65, 66, 67, 68, 69, 70, 71, 72, 73, 74, 75, 76, 77, 78, 79, 80, 81, 82, 83, 84, 85, 86, 87, 88, 89, 90, 91, 92, 93, 94, 95, 96, 97, 98, 99, 100, 101, 102, 103, 104, 105, 106, 107, 108, 109, 110, 111, 112, 113, 114, 115, 116, 117, 118, 119, 120, 121, 122, 123, 124, 125, 126, 127, 128, 129, 130, 131, 132, 133, 134, 147, 148, 149, 150, 151, 152, 153, 154, 155, 156, 157, 158, 159, 160, 161, 162, 163, 164, 165, 166, 167, 168] (by decide +kernel) (by decide +kernel)) (goodIn_sub (fun _ h => List.mem_cons_of_mem _ (List.mem_append_left _ (List.mem_append_right _ h))) (by decide +kernel))) (goodIn_sub (fun _ h => List.mem_cons_of_mem _ (List.mem_append_right _ h)) (by decide +kernel))
set_option maxRecDepth 20000 in
theorem gL_isKnown_L_isRound : GoodIn wsL_isKnown (va_wsS RL 99 yL_isRound wsL_isRound) := goodIn_app (goodIn_of _ (by decide +kernel)) ggL_isKnown_L_isRound
set_option maxRecDepth 20000 in
theorem ggL_isKnown_X3_held : GoodIn wsL_isKnown wsX3_held := goodIn_ca (goodIn_r _ [138, 124, 11, 12, 13, 8, 14, 15, 16, 17, 139, 140, 141, 93, 142, 95, 147, 148, 149, 150, 151, 152, 153, 154, 155, 156, 157, 158, 165, 166, 167, 168] (by decide +kernel) (by decide +kernel)) (goodIn_sub (fun _ h => List.mem_cons_of_mem _ (List.mem_append_left _ (List.mem_append_right _ h))) (by decide +kernel))
set_option maxRecDepth 20000 in
theorem gL_isKnown_X3_held : GoodIn wsL_isKnown (wsV RL 55 RX3 yX3_held wsX3_held) := goodIn_app (goodIn_of _ (by decide +kernel)) ggL_isKnown_X3_held
set_option maxRecDepth 20000 in
theorem ggL_isKnown_X3_far : GoodIn wsL_isKnown wsX3_far := goodIn_ca (goodIn_r _ [146, 125, 126, 11, 12, 13, 8, 14, 15, 16, 17, 139, 140, 141, 93, 142, 95, 147, 148, 149, 150, 151, 152, 153, 154, 155, 156, 159, 160, 161, 162, 163, 164, 157, 158, 165, 166, 167, 168] (by decide +kernel) (by decide +kernel)) (goodIn_sub (fun _ h => List.mem_cons_of_mem _ (List.mem_append_left _ (List.mem_append_right _ h))) (by decide +kernel))
set_option maxRecDepth 20000 in
theorem gL_isKnown_X3_far : GoodIn wsL_isKnown (wsV RL 27 RX3 yX3_far wsX3_far) := goodIn_app (goodIn_of _ (by decide +kernel)) ggL_isKnown_X3_far
theorem dL_isKnown_0 : decode cL_isKnown 0 = .ok (.aload_n 0, 1) := by decide +kernel
theorem dL_isKnown_1 : decode cL_isKnown 1 = .ok (.aload_n 1, 1) := by decide +kernel
theorem dL_isKnown_2 : decode cL_isKnown 2 = .ok (.aload_n 2, 1) := by decide +kernel
theorem dL_isKnown_3 : decode cL_isKnown 3 = .ok (.aload_n 3, 1) := by decide +kernel
theorem dL_isKnown_4 : decode cL_isKnown 4 = .ok (.iload 4, 2) := by decide +kernel
theorem dL_isKnown_6 : decode cL_isKnown 6 = .ok (.iconst 1, 1) := by decide +kernel
theorem dL_isKnown_7 : decode cL_isKnown 7 = .ok (.invokestatic 99, 3) := by decide +kernel
theorem dL_isKnown_10 : decode cL_isKnown 10 = .ok (.ifCond .eq 22, 3) := by decide +kernel
theorem dL_isKnown_13 : decode cL_isKnown 13 = .ok (.aload_n 0, 1) := by decide +kernel
theorem dL_isKnown_14 : decode cL_isKnown 14 = .ok (.iload 4, 2) := by decide +kernel
theorem dL_isKnown_16 : decode cL_isKnown 16 = .ok (.invokevirtual 55, 3) := by decide +kernel
theorem dL_isKnown_19 : decode cL_isKnown 19 = .ok (.aload_n 0, 1) := by decide +kernel
theorem dL_isKnown_20 : decode cL_isKnown 20 = .ok (.iload 4, 2) := by decide +kernel
theorem dL_isKnown_22 : decode cL_isKnown 22 = .ok (.invokevirtual 27, 3) := by decide +kernel
theorem dL_isKnown_25 : decode cL_isKnown 25 = .ok (.if_icmp .ne 7, 3) := by decide +kernel
theorem dL_isKnown_28 : decode cL_isKnown 28 = .ok (.iconst 1, 1) := by decide +kernel
theorem dL_isKnown_29 : decode cL_isKnown 29 = .ok (.goto 4, 3) := by decide +kernel
theorem dL_isKnown_32 : decode cL_isKnown 32 = .ok (.iconst 0, 1) := by decide +kernel
theorem dL_isKnown_33 : decode cL_isKnown 33 = .ok (.ireturn, 1) := by decide +kernel
