set_option maxRecDepth 20000 in
theorem ggL_near_X3_open : GoodIn wsL_near wsX3_open := goodIn_ca (goodIn_r _ [7, 8, 9, 10, 11, 6, 12, 13, 14, 15, 16, 17, 18, 19, 20, 21, 22, 23, 24, 25, 26, 27, 28, 29, 30, 31, 32, 163, 164, 165, 166, 167, 168, 169, 170, 171, 172, 173, 174] (by decide +kernel) (by decide +kernel)) (goodIn_sub (fun _ h => List.mem_cons_of_mem _ (List.mem_append_left _ (List.mem_append_right _ h))) (by decide +kernel))
set_option maxRecDepth 20000 in
theorem gL_near_X3_open : GoodIn wsL_near (wsV RL 37 RX3 yX3_open wsX3_open) := goodIn_app (goodIn_of _ (by decide +kernel)) ggL_near_X3_open
set_option maxRecDepth 20000 in
theorem ggL_near_X3_read : GoodIn wsL_near wsX3_read := goodIn_ca (goodIn_ca (goodIn_r _ [36, 37, 38, 39, 8, 9, 10, 11, 6, 12, 13, 14, 15, 40, 41, 42, 19, 43, 24, 22, 44, 17, 18, 20, 21, 23, 25, 26, 27, 45, 46, 47, 48, 49, 50, 29, 30, 31, 32, 51, 52, 53, 54, 55, 56, 57, 58, 59, 60, 61, 62, 63, 64, 65, 66, 67, 68, 69, 70, 71, 72, 73, 74, 75, 76, 77, 78, 79, 80, 81, 82, 83, 84, 85, 86, 87, 88, 89, 90, 91, 92, 93, 94, 95, 96, 97, 98, 99, 100, 101, 165, 166, 167, 168, 169, 170, 171, 172, 173, 174, 163, 164, 175, 176, 177, 178, 179, 180, 181, 182, 183, 184] (by decide +kernel) (by decide +kernel)) (goodIn_sub (fun _ h => List.mem_cons_of_mem _ (List.mem_append_right _ h)) (by decide +kernel))) (goodIn_sub (fun _ h => List.mem_cons_of_mem _ (List.mem_append_left _ (List.mem_append_right _ h))) (by decide +kernel))
set_option maxRecDepth 20000 in
theorem gL_near_X3_read : GoodIn wsL_near (wsV RL 41 RX3 yX3_read wsX3_read) := goodIn_app (goodIn_of _ (by decide +kernel)) ggL_near_X3_read
set_option maxRecDepth 20000 in
theorem ggL_near_X3_isOpen : GoodIn wsL_near wsX3_isOpen := goodIn_ca (goodIn_r _ [105, 39, 9, 10, 11, 6, 12, 13, 14, 15, 165, 166, 167, 168, 169, 170, 171, 172, 173, 174, 163, 164] (by decide +kernel) (by decide +kernel)) (goodIn_sub (fun _ h => List.mem_cons_of_mem _ (List.mem_append_left _ (List.mem_append_right _ h))) (by decide +kernel))
set_option maxRecDepth 20000 in
theorem gL_near_X3_isOpen : GoodIn wsL_near (wsV RL 44 RX3 yX3_isOpen wsX3_isOpen) := goodIn_app (goodIn_of _ (by decide +kernel)) ggL_near_X3_isOpen
set_option maxRecDepth 20000 in
theorem ggL_near_X3_mark : GoodIn wsL_near wsX3_mark := goodIn_ca (goodIn_r _ [109, 110, 9, 10, 11, 6, 12, 13, 14, 15, 165, 166, 167, 168, 169, 170, 171, 172, 173, 174, 163, 164] (by decide +kernel) (by decide +kernel)) (goodIn_sub (fun _ h => List.mem_cons_of_mem _ (List.mem_append_left _ (List.mem_append_right _ h))) (by decide +kernel))
set_option maxRecDepth 20000 in
theorem gL_near_X3_mark : GoodIn wsL_near (wsV RL 48 RX3 yX3_mark wsX3_mark) := goodIn_app (goodIn_of _ (by decide +kernel)) ggL_near_X3_mark
set_option maxRecDepth 20000 in
theorem ggL_near_X3_stored : GoodIn wsL_near wsX3_stored := goodIn_ca (goodIn_r _ [114, 115, 116, 117, 9, 10, 11, 6, 12, 13, 14, 15, 118, 119, 120, 121, 122, 123, 165, 166, 167, 168, 169, 170, 171, 172, 173, 174, 181, 182, 183, 184, 163, 164] (by decide +kernel) (by decide +kernel)) (goodIn_sub (fun _ h => List.mem_cons_of_mem _ (List.mem_append_left _ (List.mem_append_right _ h))) (by decide +kernel))
set_option maxRecDepth 20000 in
theorem gL_near_X3_stored : GoodIn wsL_near (wsV RL 51 RX3 yX3_stored wsX3_stored) := goodIn_app (goodIn_of _ (by decide +kernel)) ggL_near_X3_stored
set_option maxRecDepth 20000 in
theorem ggL_near_X3_held : GoodIn wsL_near wsX3_held := goodIn_ca (goodIn_r _ [127, 115, 9, 10, 11, 6, 12, 13, 14, 15, 128, 129, 130, 79, 131, 81, 165, 166, 167, 168, 169, 170, 171, 172, 173, 174, 163, 164, 181, 182, 183, 184] (by decide +kernel) (by decide +kernel)) (goodIn_sub (fun _ h => List.mem_cons_of_mem _ (List.mem_append_left _ (List.mem_append_right _ h))) (by decide +kernel))
set_option maxRecDepth 20000 in
theorem gL_near_X3_held : GoodIn wsL_near (wsV RL 55 RX3 yX3_held wsX3_held) := goodIn_app (goodIn_of _ (by decide +kernel)) ggL_near_X3_held
set_option maxRecDepth 20000 in
theorem ggL_near_X3_wrong : GoodIn wsL_near wsX3_wrong := goodIn_ca (goodIn_r _ [135, 115, 136, 137, 9, 10, 11, 6, 12, 13, 14, 15, 138, 139, 140, 79, 141, 142, 143, 144, 145, 81, 82, 83, 84, 165, 166, 167, 168, 169, 170, 171, 172, 173, 174, 175, 176, 177, 178, 179, 180, 163, 164, 181, 182, 183, 184] (by decide +kernel) (by decide +kernel)) (goodIn_sub (fun _ h => List.mem_cons_of_mem _ (List.mem_append_left _ (List.mem_append_right _ h))) (by decide +kernel))
set_option maxRecDepth 20000 in
theorem gL_near_X3_wrong : GoodIn wsL_near (wsV RL 58 RX3 yX3_wrong wsX3_wrong) := goodIn_app (goodIn_of _ (by decide +kernel)) ggL_near_X3_wrong
set_option maxRecDepth 20000 in
theorem ggL_near_X3_copies : GoodIn wsL_near wsX3_copies := goodIn_ca (goodIn_r _ [149, 115, 121, 122, 6, 123, 13, 14, 9, 10, 11, 12, 15, 150, 151, 152, 79, 153, 81, 82, 165, 166, 167, 168, 169, 170, 171, 172, 173, 174, 163, 164, 181, 182, 183, 184] (by decide +kernel) (by decide +kernel)) (goodIn_sub (fun _ h => List.mem_cons_of_mem _ (List.mem_append_left _ (List.mem_append_right _ h))) (by decide +kernel))
set_option maxRecDepth 20000 in
theorem gL_near_X3_copies : GoodIn wsL_near (wsV RL 61 RX3 yX3_copies wsX3_copies) := goodIn_app (goodIn_of _ (by decide +kernel)) ggL_near_X3_copies
set_option maxRecDepth 20000 in
theorem ggL_near_X3_best : GoodIn wsL_near wsX3_best := goodIn_ca (goodIn_r _ [157, 115, 158, 121, 122, 6, 123, 13, 14, 9, 10, 11, 12, 15, 159, 160, 161, 79, 162, 81, 82, 84, 165, 166, 167, 168, 169, 170, 171, 172, 173, 174, 181, 182, 183, 184, 163, 164] (by decide +kernel) (by decide +kernel)) (goodIn_sub (fun _ h => List.mem_cons_of_mem _ (List.mem_append_left _ (List.mem_append_right _ h))) (by decide +kernel))
set_option maxRecDepth 20000 in
theorem gL_near_X3_best : GoodIn wsL_near (wsV RL 64 RX3 yX3_best wsX3_best) := goodIn_app (goodIn_of _ (by decide +kernel)) ggL_near_X3_best
theorem dL_near_0 : decode cL_near 0 = .ok (.iload_n 1, 1) := by decide +kernel
theorem dL_near_1 : decode cL_near 1 = .ok (.ifCond .ne 21, 3) := by decide +kernel
theorem dL_near_4 : decode cL_near 4 = .ok (.aload_n 0, 1) := by decide +kernel
theorem dL_near_5 : decode cL_near 5 = .ok (.iload_n 2, 1) := by decide +kernel
theorem dL_near_6 : decode cL_near 6 = .ok (.iload_n 3, 1) := by decide +kernel
theorem dL_near_7 : decode cL_near 7 = .ok (.iconst 1, 1) := by decide +kernel
theorem dL_near_8 : decode cL_near 8 = .ok (.if_icmp .ne 7, 3) := by decide +kernel
theorem dL_near_11 : decode cL_near 11 = .ok (.iconst 1, 1) := by decide +kernel
theorem dL_near_12 : decode cL_near 12 = .ok (.goto 4, 3) := by decide +kernel
theorem dL_near_15 : decode cL_near 15 = .ok (.iconst 0, 1) := by decide +kernel
theorem dL_near_16 : decode cL_near 16 = .ok (.invokevirtual 37, 3) := by decide +kernel
theorem dL_near_19 : decode cL_near 19 = .ok (.goto 110, 3) := by decide +kernel
theorem dL_near_22 : decode cL_near 22 = .ok (.iload_n 1, 1) := by decide +kernel
theorem dL_near_23 : decode cL_near 23 = .ok (.iconst 1, 1) := by decide +kernel
theorem dL_near_24 : decode cL_near 24 = .ok (.if_icmp .ne 11, 3) := by decide +kernel
theorem dL_near_27 : decode cL_near 27 = .ok (.aload_n 0, 1) := by decide +kernel
theorem dL_near_28 : decode cL_near 28 = .ok (.iload_n 2, 1) := by decide +kernel
theorem dL_near_29 : decode cL_near 29 = .ok (.invokevirtual 41, 3) := by decide +kernel
theorem dL_near_32 : decode cL_near 32 = .ok (.goto 97, 3) := by decide +kernel
theorem dL_near_35 : decode cL_near 35 = .ok (.iload_n 1, 1) := by decide +kernel
theorem dL_near_36 : decode cL_near 36 = .ok (.iconst 2, 1) := by decide +kernel
theorem dL_near_37 : decode cL_near 37 = .ok (.if_icmp .ne 19, 3) := by decide +kernel
theorem dL_near_40 : decode cL_near 40 = .ok (.aload_n 0, 1) := by decide +kernel
theorem dL_near_41 : decode cL_near 41 = .ok (.iload_n 2, 1) := by decide +kernel
theorem dL_near_42 : decode cL_near 42 = .ok (.invokevirtual 44, 3) := by decide +kernel
theorem dL_near_45 : decode cL_near 45 = .ok (.ifCond .eq 7, 3) := by decide +kernel
theorem dL_near_48 : decode cL_near 48 = .ok (.iconst 1, 1) := by decide +kernel
theorem dL_near_49 : decode cL_near 49 = .ok (.goto 80, 3) := by decide +kernel
theorem dL_near_52 : decode cL_near 52 = .ok (.iconst 0, 1) := by decide +kernel
theorem dL_near_53 : decode cL_near 53 = .ok (.goto 76, 3) := by decide +kernel
theorem dL_near_56 : decode cL_near 56 = .ok (.iload_n 1, 1) := by decide +kernel
theorem dL_near_57 : decode cL_near 57 = .ok (.iconst 3, 1) := by decide +kernel
theorem dL_near_58 : decode cL_near 58 = .ok (.if_icmp .ne 11, 3) := by decide +kernel
theorem dL_near_61 : decode cL_near 61 = .ok (.aload_n 0, 1) := by decide +kernel
theorem dL_near_62 : decode cL_near 62 = .ok (.iload_n 2, 1) := by decide +kernel
theorem dL_near_63 : decode cL_near 63 = .ok (.invokevirtual 48, 3) := by decide +kernel
theorem dL_near_66 : decode cL_near 66 = .ok (.goto 63, 3) := by decide +kernel
theorem dL_near_69 : decode cL_near 69 = .ok (.iload_n 1, 1) := by decide +kernel
theorem dL_near_70 : decode cL_near 70 = .ok (.iconst 4, 1) := by decide +kernel
theorem dL_near_71 : decode cL_near 71 = .ok (.if_icmp .ne 12, 3) := by decide +kernel
theorem dL_near_74 : decode cL_near 74 = .ok (.aload_n 0, 1) := by decide +kernel
theorem dL_near_75 : decode cL_near 75 = .ok (.iload_n 2, 1) := by decide +kernel
theorem dL_near_76 : decode cL_near 76 = .ok (.iload_n 3, 1) := by decide +kernel
theorem dL_near_77 : decode cL_near 77 = .ok (.invokevirtual 51, 3) := by decide +kernel
theorem dL_near_80 : decode cL_near 80 = .ok (.goto 49, 3) := by decide +kernel
theorem dL_near_83 : decode cL_near 83 = .ok (.iload_n 1, 1) := by decide +kernel
theorem dL_near_84 : decode cL_near 84 = .ok (.iconst 5, 1) := by decide +kernel
theorem dL_near_85 : decode cL_near 85 = .ok (.if_icmp .ne 11, 3) := by decide +kernel
theorem dL_near_88 : decode cL_near 88 = .ok (.aload_n 0, 1) := by decide +kernel
theorem dL_near_89 : decode cL_near 89 = .ok (.iload_n 2, 1) := by decide +kernel
theorem dL_near_90 : decode cL_near 90 = .ok (.invokevirtual 55, 3) := by decide +kernel
theorem dL_near_93 : decode cL_near 93 = .ok (.goto 36, 3) := by decide +kernel
theorem dL_near_96 : decode cL_near 96 = .ok (.iload_n 1, 1) := by decide +kernel
theorem dL_near_97 : decode cL_near 97 = .ok (.bipush 6, 2) := by decide +kernel
theorem dL_near_99 : decode cL_near 99 = .ok (.if_icmp .ne 11, 3) := by decide +kernel
theorem dL_near_102 : decode cL_near 102 = .ok (.aload_n 0, 1) := by decide +kernel
theorem dL_near_103 : decode cL_near 103 = .ok (.iload_n 2, 1) := by decide +kernel
theorem dL_near_104 : decode cL_near 104 = .ok (.invokevirtual 58, 3) := by decide +kernel
theorem dL_near_107 : decode cL_near 107 = .ok (.goto 22, 3) := by decide +kernel
theorem dL_near_110 : decode cL_near 110 = .ok (.iload_n 1, 1) := by decide +kernel
theorem dL_near_111 : decode cL_near 111 = .ok (.bipush 7, 2) := by decide +kernel
theorem dL_near_113 : decode cL_near 113 = .ok (.if_icmp .ne 11, 3) := by decide +kernel
theorem dL_near_116 : decode cL_near 116 = .ok (.aload_n 0, 1) := by decide +kernel
theorem dL_near_117 : decode cL_near 117 = .ok (.iload_n 2, 1) := by decide +kernel
theorem dL_near_118 : decode cL_near 118 = .ok (.invokevirtual 61, 3) := by decide +kernel
theorem dL_near_121 : decode cL_near 121 = .ok (.goto 8, 3) := by decide +kernel
theorem dL_near_124 : decode cL_near 124 = .ok (.aload_n 0, 1) := by decide +kernel
theorem dL_near_125 : decode cL_near 125 = .ok (.iload_n 2, 1) := by decide +kernel
theorem dL_near_126 : decode cL_near 126 = .ok (.invokevirtual 64, 3) := by decide +kernel
theorem dL_near_129 : decode cL_near 129 = .ok (.ireturn, 1) := by decide +kernel
theorem dL_near_130 : decode cL_near 130 = .ok (.astore 4, 2) := by decide +kernel
theorem dL_near_132 : decode cL_near 132 = .ok (.sipush (-992), 3) := by decide +kernel
theorem dL_near_135 : decode cL_near 135 = .ok (.ireturn, 1) := by decide +kernel
theorem dL_near_136 : decode cL_near 136 = .ok (.astore 4, 2) := by decide +kernel
theorem dL_near_138 : decode cL_near 138 = .ok (.sipush (-993), 3) := by decide +kernel
theorem dL_near_141 : decode cL_near 141 = .ok (.ireturn, 1) := by decide +kernel
set_option maxRecDepth 20000 in
theorem ggL_all_X3_today : GoodIn wsL_all wsX3_today := goodIn_r _ [11, 12, 72, 73] (by decide +kernel) (by decide +kernel)
set_option maxRecDepth 20000 in
theorem gL_all_X3_today : GoodIn wsL_all (wsV RL 67 RX3 yX3_today wsX3_today) := goodIn_app (goodIn_of _ (by decide +kernel)) ggL_all_X3_today
set_option maxRecDepth 20000 in
theorem ggL_all_X3_far : GoodIn wsL_all wsX3_far := goodIn_ca (goodIn_r _ [16, 17, 18, 19, 20, 21, 10, 22, 23, 24, 25, 26, 27, 28, 29, 30, 31, 74, 75, 76, 77, 78, 79, 80, 81, 82, 83, 84, 85, 86, 87, 88, 89, 72, 73, 90, 91, 92, 93] (by decide +kernel) (by decide +kernel)) (goodIn_sub (fun _ h => List.mem_cons_of_mem _ (List.mem_append_right _ h)) (by decide +kernel))
set_option maxRecDepth 20000 in
theorem gL_all_X3_far : GoodIn wsL_all (wsV RL 27 RX3 yX3_far wsX3_far) := goodIn_app (goodIn_of _ (by decide +kernel)) ggL_all_X3_far
set_option maxRecDepth 20000 in
theorem ggL_all_X3_told : GoodIn wsL_all wsX3_told := goodIn_ca (goodIn_r _ [35, 17, 19, 20, 21, 10, 22, 23, 24, 25, 36, 37, 38, 39, 40, 41, 74, 75, 76, 77, 78, 79, 80, 81, 82, 83, 72, 73, 84, 85, 86, 87, 88, 89] (by decide +kernel) (by decide +kernel)) (goodIn_sub (fun _ h => List.mem_cons_of_mem _ (List.mem_append_right _ h)) (by decide +kernel))
set_option maxRecDepth 20000 in
theorem gL_all_X3_told : GoodIn wsL_all (wsV RL 30 RX3 yX3_told wsX3_told) := goodIn_app (goodIn_of _ (by decide +kernel)) ggL_all_X3_told
set_option maxRecDepth 20000 in
theorem ggL_all_X3_held : GoodIn wsL_all wsX3_held := goodIn_ca (goodIn_r _ [45, 46, 19, 20, 21, 10, 22, 23, 24, 25, 26, 27, 28, 29, 30, 31, 74, 75, 76, 77, 78, 79, 80, 81, 82, 83, 72, 73, 90, 91, 92, 93] (by decide +kernel) (by decide +kernel)) (goodIn_sub (fun _ h => List.mem_cons_of_mem _ (List.mem_append_right _ h)) (by decide +kernel))
set_option maxRecDepth 20000 in
theorem gL_all_X3_held : GoodIn wsL_all (wsV RL 55 RX3 yX3_held wsX3_held) := goodIn_app (goodIn_of _ (by decide +kernel)) ggL_all_X3_held
set_option maxRecDepth 20000 in
theorem ggL_all_X3_wrong : GoodIn wsL_all wsX3_wrong := goodIn_ca (goodIn_r _ [50, 46, 17, 18, 19, 20, 21, 10, 22, 23, 24, 25, 51, 52, 53, 29, 54, 55, 56, 57, 58, 31, 59, 60, 61, 74, 75, 76, 77, 78, 79, 80, 81, 82, 83, 84, 85, 86, 87, 88, 89, 72, 73, 90, 91, 92, 93] (by decide +kernel) (by decide +kernel)) (goodIn_sub (fun _ h => List.mem_cons_of_mem _ (List.mem_append_right _ h)) (by decide +kernel))
set_option maxRecDepth 20000 in
theorem gL_all_X3_wrong : GoodIn wsL_all (wsV RL 58 RX3 yX3_wrong wsX3_wrong) := goodIn_app (goodIn_of _ (by decide +kernel)) ggL_all_X3_wrong
set_option maxRecDepth 20000 in
theorem ggL_all_X3_mark : GoodIn wsL_all wsX3_mark := goodIn_ca (goodIn_r _ [65, 66, 19, 20, 21, 10, 22, 23, 24, 25, 74, 75, 76, 77, 78, 79, 80, 81, 82, 83, 72, 73] (by decide +kernel) (by decide +kernel)) (goodIn_sub (fun _ h => List.mem_cons_of_mem _ (List.mem_append_right _ h)) (by decide +kernel))
set_option maxRecDepth 20000 in
theorem gL_all_X3_mark : GoodIn wsL_all (wsV RL 48 RX3 yX3_mark wsX3_mark) := goodIn_app (goodIn_of _ (by decide +kernel)) ggL_all_X3_mark
set_option maxRecDepth 20000 in
theorem ggL_all_X3_isOpen : GoodIn wsL_all wsX3_isOpen := goodIn_ca (goodIn_r _ [70, 71, 19, 20, 21, 10, 22, 23, 24, 25, 74, 75, 76, 77, 78, 79, 80, 81, 82, 83, 72, 73] (by decide +kernel) (by decide +kernel)) (goodIn_sub (fun _ h => List.mem_cons_of_mem _ (List.mem_append_right _ h)) (by decide +kernel))
set_option maxRecDepth 20000 in
theorem gL_all_X3_isOpen : GoodIn wsL_all (wsV RL 44 RX3 yX3_isOpen wsX3_isOpen) := goodIn_app (goodIn_of _ (by decide +kernel)) ggL_all_X3_isOpen
theorem dL_all_0 : decode cL_all 0 = .ok (.aload_n 0, 1) := by decide +kernel
theorem dL_all_1 : decode cL_all 1 = .ok (.invokevirtual 67, 3) := by decide +kernel
theorem dL_all_4 : decode cL_all 4 = .ok (.i2l, 1) := by decide +kernel
theorem dL_all_5 : decode cL_all 5 = .ok (.lstore_n 1, 1) := by decide +kernel
theorem dL_all_6 : decode cL_all 6 = .ok (.iconst 0, 1) := by decide +kernel
theorem dL_all_7 : decode cL_all 7 = .ok (.istore_n 3, 1) := by decide +kernel
theorem dL_all_8 : decode cL_all 8 = .ok (.iload_n 3, 1) := by decide +kernel
theorem dL_all_9 : decode cL_all 9 = .ok (.iconst 4, 1) := by decide +kernel
theorem dL_all_10 : decode cL_all 10 = .ok (.if_icmp .ge 82, 3) := by decide +kernel
theorem dL_all_13 : decode cL_all 13 = .ok (.ldc2_w 71, 3) := by decide +kernel
theorem dL_all_16 : decode cL_all 16 = .ok (.lload_n 1, 1) := by decide +kernel
theorem dL_all_17 : decode cL_all 17 = .ok (.lmul, 1) := by decide +kernel
theorem dL_all_18 : decode cL_all 18 = .ok (.aload_n 0, 1) := by decide +kernel
theorem dL_all_19 : decode cL_all 19 = .ok (.iload_n 3, 1) := by decide +kernel
theorem dL_all_20 : decode cL_all 20 = .ok (.invokevirtual 27, 3) := by decide +kernel
theorem dL_all_23 : decode cL_all 23 = .ok (.i2l, 1) := by decide +kernel
theorem dL_all_24 : decode cL_all 24 = .ok (.ladd, 1) := by decide +kernel
theorem dL_all_25 : decode cL_all 25 = .ok (.ldc2_w 73, 3) := by decide +kernel
theorem dL_all_28 : decode cL_all 28 = .ok (.aload_n 0, 1) := by decide +kernel
theorem dL_all_29 : decode cL_all 29 = .ok (.iload_n 3, 1) := by decide +kernel
theorem dL_all_30 : decode cL_all 30 = .ok (.invokevirtual 30, 3) := by decide +kernel
theorem dL_all_33 : decode cL_all 33 = .ok (.i2l, 1) := by decide +kernel
theorem dL_all_34 : decode cL_all 34 = .ok (.lmul, 1) := by decide +kernel
theorem dL_all_35 : decode cL_all 35 = .ok (.ladd, 1) := by decide +kernel
theorem dL_all_36 : decode cL_all 36 = .ok (.ldc2_w 75, 3) := by decide +kernel
theorem dL_all_39 : decode cL_all 39 = .ok (.aload_n 0, 1) := by decide +kernel
theorem dL_all_40 : decode cL_all 40 = .ok (.iload_n 3, 1) := by decide +kernel
theorem dL_all_41 : decode cL_all 41 = .ok (.invokevirtual 55, 3) := by decide +kernel
theorem dL_all_44 : decode cL_all 44 = .ok (.i2l, 1) := by decide +kernel
theorem dL_all_45 : decode cL_all 45 = .ok (.lmul, 1) := by decide +kernel
theorem dL_all_46 : decode cL_all 46 = .ok (.ladd, 1) := by decide +kernel
theorem dL_all_47 : decode cL_all 47 = .ok (.ldc2_w 77, 3) := by decide +kernel
theorem dL_all_50 : decode cL_all 50 = .ok (.aload_n 0, 1) := by decide +kernel
theorem dL_all_51 : decode cL_all 51 = .ok (.iload_n 3, 1) := by decide +kernel
theorem dL_all_52 : decode cL_all 52 = .ok (.invokevirtual 58, 3) := by decide +kernel
theorem dL_all_55 : decode cL_all 55 = .ok (.i2l, 1) := by decide +kernel
theorem dL_all_56 : decode cL_all 56 = .ok (.lmul, 1) := by decide +kernel
theorem dL_all_57 : decode cL_all 57 = .ok (.ladd, 1) := by decide +kernel
theorem dL_all_58 : decode cL_all 58 = .ok (.ldc2_w 79, 3) := by decide +kernel
theorem dL_all_61 : decode cL_all 61 = .ok (.aload_n 0, 1) := by decide +kernel
theorem dL_all_62 : decode cL_all 62 = .ok (.iload_n 3, 1) := by decide +kernel
theorem dL_all_63 : decode cL_all 63 = .ok (.invokevirtual 48, 3) := by decide +kernel
theorem dL_all_66 : decode cL_all 66 = .ok (.i2l, 1) := by decide +kernel
theorem dL_all_67 : decode cL_all 67 = .ok (.lmul, 1) := by decide +kernel
theorem dL_all_68 : decode cL_all 68 = .ok (.ladd, 1) := by decide +kernel
theorem dL_all_69 : decode cL_all 69 = .ok (.aload_n 0, 1) := by decide +kernel
theorem dL_all_70 : decode cL_all 70 = .ok (.iload_n 3, 1) := by decide +kernel
theorem dL_all_71 : decode cL_all 71 = .ok (.invokevirtual 44, 3) := by decide +kernel
theorem dL_all_74 : decode cL_all 74 = .ok (.ifCond .eq 9, 3) := by decide +kernel
theorem dL_all_77 : decode cL_all 77 = .ok (.ldc2_w 81, 3) := by decide +kernel
theorem dL_all_80 : decode cL_all 80 = .ok (.goto 4, 3) := by decide +kernel
theorem dL_all_83 : decode cL_all 83 = .ok (.lconst 0, 1) := by decide +kernel
theorem dL_all_84 : decode cL_all 84 = .ok (.ladd, 1) := by decide +kernel
theorem dL_all_85 : decode cL_all 85 = .ok (.lstore_n 1, 1) := by decide +kernel
theorem dL_all_86 : decode cL_all 86 = .ok (.iinc 3 1, 3) := by decide +kernel
theorem dL_all_89 : decode cL_all 89 = .ok (.goto (-81), 3) := by decide +kernel
theorem dL_all_92 : decode cL_all 92 = .ok (.lload_n 1, 1) := by decide +kernel
theorem dL_all_93 : decode cL_all 93 = .ok (.lreturn, 1) := by decide +kernel
theorem dL_stampOf_0 : decode cL_stampOf 0 = .ok (.iload_n 0, 1) := by decide +kernel
theorem dL_stampOf_1 : decode cL_stampOf 1 = .ok (.iconst (-1), 1) := by decide +kernel
theorem dL_stampOf_2 : decode cL_stampOf 2 = .ok (.if_icmp .ge 10, 3) := by decide +kernel
theorem dL_stampOf_5 : decode cL_stampOf 5 = .ok (.bipush (-2), 2) := by decide +kernel
theorem dL_stampOf_7 : decode cL_stampOf 7 = .ok (.iload_n 0, 1) := by decide +kernel
theorem dL_stampOf_8 : decode cL_stampOf 8 = .ok (.isub, 1) := by decide +kernel
theorem dL_stampOf_9 : decode cL_stampOf 9 = .ok (.goto 7, 3) := by decide +kernel
theorem dL_stampOf_12 : decode cL_stampOf 12 = .ok (.iload_n 0, 1) := by decide +kernel
theorem dL_stampOf_13 : decode cL_stampOf 13 = .ok (.bipush 14, 2) := by decide +kernel
theorem dL_stampOf_15 : decode cL_stampOf 15 = .ok (.ishr, 1) := by decide +kernel
theorem dL_stampOf_16 : decode cL_stampOf 16 = .ok (.ireturn, 1) := by decide +kernel
