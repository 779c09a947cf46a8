set_option maxRecDepth 20000 in
theorem wsL_law0_r1_in : ∀ w ∈ wsL_law0_r1, w ∈ lw_tbl := fun w h => (goodIn_p wsL_law0_r1 [21, 24, 30] (by decide +kernel) (by decide +kernel) w h).1
set_option maxRecDepth 20000 in
theorem wsL_law0_r2_in : ∀ w ∈ wsL_law0_r2, w ∈ lw_tbl := fun w h => (goodIn_p wsL_law0_r2 [36, 42] (by decide +kernel) (by decide +kernel) w h).1
set_option maxRecDepth 20000 in
theorem wsL_law0_r3_in : ∀ w ∈ wsL_law0_r3, w ∈ lw_tbl := fun w h => (goodIn_p wsL_law0_r3 [364, 367, 138] (by decide +kernel) (by decide +kernel) w h).1
set_option maxRecDepth 20000 in
theorem wsL_law0_r4_in : ∀ w ∈ wsL_law0_r4, w ∈ lw_tbl := fun w h => (goodIn_p wsL_law0_r4 [303, 146, 307, 311, 315] (by decide +kernel) (by decide +kernel) w h).1
set_option maxRecDepth 20000 in
theorem wsL_law0_r5_in : ∀ w ∈ wsL_law0_r5, w ∈ lw_tbl := fun w h => (goodIn_p wsL_law0_r5 [326, 330, 334, 338, 225, 342] (by decide +kernel) (by decide +kernel) w h).1
set_option maxRecDepth 20000 in
theorem wsL_law0_r6_in : ∀ w ∈ wsL_law0_r6, w ∈ lw_tbl := fun w h => (goodIn_p wsL_law0_r6 [239, 242, 247, 251] (by decide +kernel) (by decide +kernel) w h).1
set_option maxRecDepth 20000 in
theorem wsL_law0_r7_in : ∀ w ∈ wsL_law0_r7, w ∈ lw_tbl := fun w h => (goodIn_p wsL_law0_r7 [254, 258, 262, 266, 270, 290] (by decide +kernel) (by decide +kernel) w h).1
set_option maxRecDepth 20000 in
theorem wsL_law0_r8_in : ∀ w ∈ wsL_law0_r8, w ∈ lw_tbl := fun w h => (goodIn_p wsL_law0_r8 [294, 298, 142, 217, 221] (by decide +kernel) (by decide +kernel) w h).1
set_option maxRecDepth 20000 in
theorem wsL_law0_r9_in : ∀ w ∈ wsL_law0_r9, w ∈ lw_tbl := fun w h => (goodIn_p wsL_law0_r9 [380, 385, 390, 395, 399] (by decide +kernel) (by decide +kernel) w h).1
set_option maxRecDepth 20000 in
theorem wsL_law0_r10_in : ∀ w ∈ wsL_law0_r10, w ∈ lw_tbl := fun w h => (goodIn_p wsL_law0_r10 [403, 410, 415, 322] (by decide +kernel) (by decide +kernel) w h).1
set_option maxRecDepth 20000 in
theorem wsL_law0_r11_in : ∀ w ∈ wsL_law0_r11, w ∈ lw_tbl := fun w h => (goodIn_p wsL_law0_r11 [357, 361, 346, 350, 228] (by decide +kernel) (by decide +kernel) w h).1
set_option maxRecDepth 20000 in
theorem wsL_law0_r12_in : ∀ w ∈ wsL_law0_r12, w ∈ lw_tbl := fun w h => (goodIn_p wsL_law0_r12 [418, 421, 424, 427, 353, 430, 433, 318] (by decide +kernel) (by decide +kernel) w h).1
theorem wsX30_inT : ∀ w ∈ wsX30, w ∈ lw_tbl := by decide +kernel
theorem wsX10_inT : ∀ w ∈ wsX10, w ∈ lw_tbl := by decide +kernel
theorem wsX00_inT : ∀ w ∈ wsX00, w ∈ lw_tbl := by decide +kernel
theorem wsX20_inT : ∀ w ∈ wsX20, w ∈ lw_tbl := by decide +kernel
theorem wsL_law_in0 : ∀ w ∈ wsL_law0, w ∈ lw_tbl := (fun w h => (List.mem_append.mp h).elim ((fun w h => (List.mem_append.mp h).elim ((fun w h => (List.mem_append.mp h).elim ((fun w h => (List.mem_append.mp h).elim ((fun w h => (List.mem_append.mp h).elim ((fun w h => (List.mem_append.mp h).elim (wsL_law0_r1_in w) ((fun w h => (List.mem_append.mp h).elim (wsL_law0_r2_in w) ((fun w h => (List.mem_append.mp h).elim (wsL_law0_r3_in w) ((fun w h => (List.mem_append.mp h).elim (wsL_law0_r4_in w) ((fun w h => (List.mem_append.mp h).elim (wsL_law0_r5_in w) ((fun w h => (List.mem_append.mp h).elim (wsL_law0_r6_in w) ((fun w h => (List.mem_append.mp h).elim (wsL_law0_r7_in w) ((fun w h => (List.mem_append.mp h).elim (wsL_law0_r8_in w) ((fun w h => (List.mem_append.mp h).elim (wsL_law0_r9_in w) ((fun w h => (List.mem_append.mp h).elim (wsL_law0_r10_in w) ((fun w h => (List.mem_append.mp h).elim (wsL_law0_r11_in w) (wsL_law0_r12_in w)) w)) w)) w)) w)) w)) w)) w)) w)) w)) w)) w) (wsX30_inT w)) w) (wsX10_inT w)) w) (wsX00_inT w)) w) (wsX20_inT w)) w) ((fun w h => nomatch h : ∀ w ∈ ([] : List Cond), w ∈ lw_tbl) w))
theorem wsL_law_x0 : ∀ w ∈ (vx_atS RX3 125 "java/lang/IllegalArgumentException" ["java/lang/RuntimeException", "java/lang/Exception"]).filter goodWord, w ∈ lw_tbl := by decide +kernel
theorem wsL_law_x1 : ∀ w ∈ (vx_atS RX3 65 "java/lang/IllegalStateException" ["java/lang/RuntimeException", "java/lang/Exception"]).filter goodWord, w ∈ lw_tbl := by decide +kernel
theorem wsL_law_in : ∀ w ∈ wsL_law, w ∈ lw_tbl := fun w h => (List.mem_append.mp h).elim (fun h => (List.mem_append.mp h).elim (fun h => wsL_law_in0 w h) (fun h => wsL_law_x0 w h)) (fun h => wsL_law_x1 w h)
theorem inlX0 : ∀ w ∈ wsX00, w ∈ wsL_law := fun _ h => List.mem_append_left _ (List.mem_append_left _ (List.mem_append_left _ (List.mem_append_left _ (List.mem_append_right _ h))))
theorem inX0 : ∀ w ∈ wsX00, w ∈ lw_tbl := fun w h => wsL_law_in w (inlX0 w h)
theorem inlX1 : ∀ w ∈ wsX10, w ∈ wsL_law := fun _ h => List.mem_append_left _ (List.mem_append_left _ (List.mem_append_left _ (List.mem_append_left _ (List.mem_append_left _ (List.mem_append_right _ h)))))
theorem inX1 : ∀ w ∈ wsX10, w ∈ lw_tbl := fun w h => wsL_law_in w (inlX1 w h)
theorem inlX2 : ∀ w ∈ wsX20, w ∈ wsL_law := fun _ h => List.mem_append_left _ (List.mem_append_left _ (List.mem_append_left _ (List.mem_append_right _ h)))
theorem inX2 : ∀ w ∈ wsX20, w ∈ lw_tbl := fun w h => wsL_law_in w (inlX2 w h)
theorem inlX3 : ∀ w ∈ wsX30, w ∈ wsL_law := fun _ h => List.mem_append_left _ (List.mem_append_left _ (List.mem_append_left _ (List.mem_append_left _ (List.mem_append_left _ (List.mem_append_left _ (List.mem_append_right _ h))))))
theorem inX3 : ∀ w ∈ wsX30, w ∈ lw_tbl := fun w h => wsL_law_in w (inlX3 w h)
theorem inX4 : ∀ w ∈ wsX40, w ∈ lw_tbl := by decide +kernel
theorem inJ0 : ∀ w ∈ wsJ00, w ∈ lw_tbl := by decide +kernel
theorem dL_dice_0 : decode cL_dice 0 = .ok (.iload_n 1, 1) := by decide +kernel
theorem dL_dice_1 : decode cL_dice 1 = .ok (.aload_n 0, 1) := by decide +kernel
theorem dL_dice_2 : decode cL_dice 2 = .ok (.arraylength, 1) := by decide +kernel
theorem dL_dice_3 : decode cL_dice 3 = .ok (.if_icmp .ge 9, 3) := by decide +kernel
theorem dL_dice_6 : decode cL_dice 6 = .ok (.aload_n 0, 1) := by decide +kernel
theorem dL_dice_7 : decode cL_dice 7 = .ok (.iload_n 1, 1) := by decide +kernel
theorem dL_dice_8 : decode cL_dice 8 = .ok (.iaload, 1) := by decide +kernel
theorem dL_dice_9 : decode cL_dice 9 = .ok (.goto 22, 3) := by decide +kernel
theorem dL_dice_12 : decode cL_dice 12 = .ok (.ldc 7, 2) := by decide +kernel
theorem dL_dice_14 : decode cL_dice 14 = .ok (.iload_n 1, 1) := by decide +kernel
theorem dL_dice_15 : decode cL_dice 15 = .ok (.sipush 163, 3) := by decide +kernel
theorem dL_dice_18 : decode cL_dice 18 = .ok (.iadd, 1) := by decide +kernel
theorem dL_dice_19 : decode cL_dice 19 = .ok (.imul, 1) := by decide +kernel
theorem dL_dice_20 : decode cL_dice 20 = .ok (.sipush 565, 3) := by decide +kernel
theorem dL_dice_23 : decode cL_dice 23 = .ok (.iload_n 1, 1) := by decide +kernel
theorem dL_dice_24 : decode cL_dice 24 = .ok (.imul, 1) := by decide +kernel
theorem dL_dice_25 : decode cL_dice 25 = .ok (.iload_n 1, 1) := by decide +kernel
theorem dL_dice_26 : decode cL_dice 26 = .ok (.imul, 1) := by decide +kernel
theorem dL_dice_27 : decode cL_dice 27 = .ok (.iadd, 1) := by decide +kernel
theorem dL_dice_28 : decode cL_dice 28 = .ok (.bipush 67, 2) := by decide +kernel
theorem dL_dice_30 : decode cL_dice 30 = .ok (.iadd, 1) := by decide +kernel
theorem dL_dice_31 : decode cL_dice 31 = .ok (.ldc 8, 2) := by decide +kernel
theorem dL_dice_33 : decode cL_dice 33 = .ok (.iand, 1) := by decide +kernel
theorem dL_dice_34 : decode cL_dice 34 = .ok (.ireturn, 1) := by decide +kernel
set_option maxRecDepth 20000 in
theorem ggL_far_X3_setCatalogue : GoodIn wsL_far wsX3_setCatalogue := goodIn_ca (goodIn_r _ [7, 8, 9, 10, 11, 12, 13, 14, 6, 15, 16, 17, 18, 19, 20, 21, 22, 23, 24, 25, 26, 27, 28, 29, 93, 94, 95, 96, 97, 98, 99, 100, 101, 102, 103, 104, 105, 106, 107, 108, 109, 110] (by decide +kernel) (by decide +kernel)) (goodIn_sub (fun _ h => List.mem_cons_of_mem _ (List.mem_append_left _ (List.mem_append_right _ h))) (by decide +kernel))
set_option maxRecDepth 20000 in
theorem gL_far_X3_setCatalogue : GoodIn wsL_far (wsV RL 9 RX3 yX3_setCatalogue wsX3_setCatalogue) := goodIn_app (goodIn_of _ (by decide +kernel)) ggL_far_X3_setCatalogue
set_option maxRecDepth 20000 in
theorem ggL_far_X3_put : GoodIn wsL_far wsX3_put := goodIn_ca (goodIn_r _ [33, 8, 11, 12, 13, 14, 6, 15, 16, 17, 18, 34, 35, 36, 19, 20, 21, 37, 38, 39, 25, 40, 41, 29, 42, 43, 44, 45, 46, 47, 48, 49, 50, 51, 52, 53, 54, 55, 93, 94, 95, 96, 97, 98, 99, 100, 101, 102, 109, 110, 103, 104, 105, 106, 107, 108, 111, 112, 113, 114] (by decide +kernel) (by decide +kernel)) (goodIn_sub (fun _ h => List.mem_cons_of_mem _ (List.mem_append_left _ (List.mem_append_right _ h))) (by decide +kernel))
set_option maxRecDepth 20000 in
theorem gL_far_X3_put : GoodIn wsL_far (wsV RL 15 RX3 yX3_put wsX3_put) := goodIn_app (goodIn_of _ (by decide +kernel)) ggL_far_X3_put
set_option maxRecDepth 20000 in
theorem ggL_far_X3_remove : GoodIn wsL_far wsX3_remove := goodIn_ca (goodIn_ca (goodIn_r _ [59, 60, 61, 8, 62, 63, 11, 12, 13, 14, 6, 15, 16, 17, 18, 34, 35, 36, 19, 20, 21, 64, 65, 66, 25, 67, 41, 29, 28, 68, 27, 69, 70, 71, 50, 72, 52, 42, 43, 44, 45, 46, 93, 94, 95, 96, 97, 98, 99, 100, 101, 102, 103, 104, 105, 106, 107, 108, 111, 112, 113, 114, 109, 110] (by decide +kernel) (by decide +kernel)) (goodIn_sub (fun _ h => List.mem_cons_of_mem _ (List.mem_append_right _ h)) (by decide +kernel))) (goodIn_sub (fun _ h => List.mem_cons_of_mem _ (List.mem_append_left _ (List.mem_append_right _ h))) (by decide +kernel))
set_option maxRecDepth 20000 in
theorem gL_far_X3_remove : GoodIn wsL_far (wsV RL 19 RX3 yX3_remove wsX3_remove) := goodIn_app (goodIn_of _ (by decide +kernel)) ggL_far_X3_remove
set_option maxRecDepth 20000 in
theorem ggL_far_X3_pass : GoodIn wsL_far wsX3_pass := goodIn_ca (goodIn_ca (goodIn_r _ [76, 60, 61, 11, 8, 19, 20, 6, 21, 16, 17, 12, 13, 14, 15, 18, 22, 23, 24, 25, 26, 27, 28, 29, 109, 110, 93, 94, 95, 96, 97, 98, 99, 100, 101, 102, 103, 104, 105, 106, 107, 108] (by decide +kernel) (by decide +kernel)) (goodIn_sub (fun _ h => List.mem_cons_of_mem _ (List.mem_append_right _ h)) (by decide +kernel))) (goodIn_sub (fun _ h => List.mem_cons_of_mem _ (List.mem_append_left _ (List.mem_append_right _ h))) (by decide +kernel))
set_option maxRecDepth 20000 in
theorem gL_far_X3_pass : GoodIn wsL_far (wsV RL 23 RX3 yX3_pass wsX3_pass) := goodIn_app (goodIn_of _ (by decide +kernel)) ggL_far_X3_pass
set_option maxRecDepth 20000 in
theorem ggL_far_X3_far : GoodIn wsL_far wsX3_far := goodIn_ca (goodIn_r _ [80, 8, 62, 12, 13, 14, 6, 15, 16, 17, 18, 81, 82, 83, 50, 84, 52, 93, 94, 95, 96, 97, 98, 99, 100, 101, 102, 103, 104, 105, 106, 107, 108, 109, 110, 111, 112, 113, 114] (by decide +kernel) (by decide +kernel)) (goodIn_sub (fun _ h => List.mem_cons_of_mem _ (List.mem_append_left _ (List.mem_append_right _ h))) (by decide +kernel))
set_option maxRecDepth 20000 in
theorem gL_far_X3_far : GoodIn wsL_far (wsV RL 27 RX3 yX3_far wsX3_far) := goodIn_app (goodIn_of _ (by decide +kernel)) ggL_far_X3_far
set_option maxRecDepth 20000 in
theorem ggL_far_X3_told : GoodIn wsL_far wsX3_told := goodIn_ca (goodIn_r _ [88, 8, 12, 13, 14, 6, 15, 16, 17, 18, 89, 90, 91, 25, 92, 29, 93, 94, 95, 96, 97, 98, 99, 100, 101, 102, 109, 110, 103, 104, 105, 106, 107, 108] (by decide +kernel) (by decide +kernel)) (goodIn_sub (fun _ h => List.mem_cons_of_mem _ (List.mem_append_left _ (List.mem_append_right _ h))) (by decide +kernel))
set_option maxRecDepth 20000 in
theorem gL_far_X3_told : GoodIn wsL_far (wsV RL 30 RX3 yX3_told wsX3_told) := goodIn_app (goodIn_of _ (by decide +kernel)) ggL_far_X3_told
theorem dL_far_0 : decode cL_far 0 = .ok (.iload_n 1, 1) := by decide +kernel
theorem dL_far_1 : decode cL_far 1 = .ok (.ifCond .ne 14, 3) := by decide +kernel
theorem dL_far_4 : decode cL_far 4 = .ok (.aload_n 0, 1) := by decide +kernel
theorem dL_far_5 : decode cL_far 5 = .ok (.iload_n 2, 1) := by decide +kernel
theorem dL_far_6 : decode cL_far 6 = .ok (.iload_n 3, 1) := by decide +kernel
theorem dL_far_7 : decode cL_far 7 = .ok (.iload 4, 2) := by decide +kernel
theorem dL_far_9 : decode cL_far 9 = .ok (.invokevirtual 9, 3) := by decide +kernel
theorem dL_far_12 : decode cL_far 12 = .ok (.goto 74, 3) := by decide +kernel
theorem dL_far_15 : decode cL_far 15 = .ok (.iload_n 1, 1) := by decide +kernel
theorem dL_far_16 : decode cL_far 16 = .ok (.iconst 1, 1) := by decide +kernel
theorem dL_far_17 : decode cL_far 17 = .ok (.if_icmp .ne 16, 3) := by decide +kernel
theorem dL_far_20 : decode cL_far 20 = .ok (.aload_n 0, 1) := by decide +kernel
theorem dL_far_21 : decode cL_far 21 = .ok (.iload_n 2, 1) := by decide +kernel
theorem dL_far_22 : decode cL_far 22 = .ok (.iload_n 3, 1) := by decide +kernel
theorem dL_far_23 : decode cL_far 23 = .ok (.iload 4, 2) := by decide +kernel
theorem dL_far_25 : decode cL_far 25 = .ok (.iload 5, 2) := by decide +kernel
theorem dL_far_27 : decode cL_far 27 = .ok (.invokevirtual 15, 3) := by decide +kernel
theorem dL_far_30 : decode cL_far 30 = .ok (.goto 56, 3) := by decide +kernel
theorem dL_far_33 : decode cL_far 33 = .ok (.iload_n 1, 1) := by decide +kernel
theorem dL_far_34 : decode cL_far 34 = .ok (.iconst 2, 1) := by decide +kernel
theorem dL_far_35 : decode cL_far 35 = .ok (.if_icmp .ne 20, 3) := by decide +kernel
theorem dL_far_38 : decode cL_far 38 = .ok (.aload_n 0, 1) := by decide +kernel
theorem dL_far_39 : decode cL_far 39 = .ok (.iload_n 2, 1) := by decide +kernel
theorem dL_far_40 : decode cL_far 40 = .ok (.iload_n 3, 1) := by decide +kernel
theorem dL_far_41 : decode cL_far 41 = .ok (.invokevirtual 19, 3) := by decide +kernel
theorem dL_far_44 : decode cL_far 44 = .ok (.ifCond .eq 7, 3) := by decide +kernel
theorem dL_far_47 : decode cL_far 47 = .ok (.iconst 1, 1) := by decide +kernel
theorem dL_far_48 : decode cL_far 48 = .ok (.goto 38, 3) := by decide +kernel
theorem dL_far_51 : decode cL_far 51 = .ok (.iconst 0, 1) := by decide +kernel
theorem dL_far_52 : decode cL_far 52 = .ok (.goto 34, 3) := by decide +kernel
theorem dL_far_55 : decode cL_far 55 = .ok (.iload_n 1, 1) := by decide +kernel
theorem dL_far_56 : decode cL_far 56 = .ok (.iconst 3, 1) := by decide +kernel
theorem dL_far_57 : decode cL_far 57 = .ok (.if_icmp .ne 11, 3) := by decide +kernel
theorem dL_far_60 : decode cL_far 60 = .ok (.aload_n 0, 1) := by decide +kernel
theorem dL_far_61 : decode cL_far 61 = .ok (.iload_n 2, 1) := by decide +kernel
theorem dL_far_62 : decode cL_far 62 = .ok (.invokevirtual 23, 3) := by decide +kernel
theorem dL_far_65 : decode cL_far 65 = .ok (.goto 21, 3) := by decide +kernel
theorem dL_far_68 : decode cL_far 68 = .ok (.iload_n 1, 1) := by decide +kernel
theorem dL_far_69 : decode cL_far 69 = .ok (.iconst 4, 1) := by decide +kernel
theorem dL_far_70 : decode cL_far 70 = .ok (.if_icmp .ne 11, 3) := by decide +kernel
theorem dL_far_73 : decode cL_far 73 = .ok (.aload_n 0, 1) := by decide +kernel
theorem dL_far_74 : decode cL_far 74 = .ok (.iload_n 2, 1) := by decide +kernel
theorem dL_far_75 : decode cL_far 75 = .ok (.invokevirtual 27, 3) := by decide +kernel
theorem dL_far_78 : decode cL_far 78 = .ok (.goto 8, 3) := by decide +kernel
theorem dL_far_81 : decode cL_far 81 = .ok (.aload_n 0, 1) := by decide +kernel
theorem dL_far_82 : decode cL_far 82 = .ok (.iload_n 2, 1) := by decide +kernel
theorem dL_far_83 : decode cL_far 83 = .ok (.invokevirtual 30, 3) := by decide +kernel
theorem dL_far_86 : decode cL_far 86 = .ok (.ireturn, 1) := by decide +kernel
theorem dL_far_87 : decode cL_far 87 = .ok (.astore 6, 2) := by decide +kernel
theorem dL_far_89 : decode cL_far 89 = .ok (.sipush (-992), 3) := by decide +kernel
theorem dL_far_92 : decode cL_far 92 = .ok (.ireturn, 1) := by decide +kernel
theorem dL_far_93 : decode cL_far 93 = .ok (.astore 6, 2) := by decide +kernel
theorem dL_far_95 : decode cL_far 95 = .ok (.sipush (-993), 3) := by decide +kernel
theorem dL_far_98 : decode cL_far 98 = .ok (.ireturn, 1) := by decide +kernel
set_option maxRecDepth 20000 in
theorem ggL_near_X3_open : GoodIn wsL_near wsX3_open := goodIn_ca (goodIn_r _ [7, 8, 9, 10, 11, 6, 12, 13, 14, 15, 16, 17, 18, 19, 20, 21, 22, 23, 24, 25, 26, 27, 28, 29, 30, 31, 32, 163, 164, 165, 166, 167, 168, 169, 170, 171, 172, 173, 174] (by decide +kernel) (by decide +kernel)) (goodIn_sub (fun _ h => List.mem_cons_of_mem _ (List.mem_append_left _ (List.mem_append_right _ h))) (by decide +kernel))
set_option maxRecDepth 20000 in
theorem gL_near_X3_open : GoodIn wsL_near (wsV RL 37 RX3 yX3_open wsX3_open) := goodIn_app (goodIn_of _ (by decide +kernel)) ggL_near_X3_open
set_option maxRecDepth 20000 in
theorem ggL_near_X3_read : GoodIn wsL_near wsX3_read := goodIn_ca (goodIn_ca (goodIn_r _ [36, 37, 38, 39, 8, 9, 10, 11, 6, 12, 13, 14, 15, 40, 41, 42, 19, 43, 24, 22, 44, 17, 18, 20, 21, 23, 25, 26, 27, 45, 46, 47, 48, 49, 50, 29, 30, 31, 32, 51, 52, 53, 54, 55, 56, 57, 58, 59, 60, 61, 62, 63, 64, 65, 66, 67, 68, 69, 70, 71, 72, 73, 74, 75, 76, 77, 78, 79, 80, 81, 82, 83, 84, 85, 86, 87, 88, 89, 90, 91, 92, 93, 94, 95, 96, 97, 98, 99, 100, 101, 165, 166, 167, 168, 169, 170, 171, 172, 173, 174, 163, 164, 175, 176, 177, 178, 179, 180, 181, 182, 183, 184] (by decide +kernel) (by decide +kernel)) (goodIn_sub (fun _ h => List.mem_cons_of_mem _ (List.mem_append_right _ h)) (by decide +kernel))) (goodIn_sub (fun _ h => List.mem_cons_of_mem _ (List.mem_append_left _ (List.mem_append_right _ h))) (by decide +kernel))
set_option maxRecDepth 20000 in
theorem gL_near_X3_read : GoodIn wsL_near (wsV RL 41 RX3 yX3_read wsX3_read) := goodIn_app (goodIn_of _ (by decide +kernel)) ggL_near_X3_read
set_option maxRecDepth 20000 in
theorem ggL_near_X3_isOpen : GoodIn wsL_near wsX3_isOpen := goodIn_ca (goodIn_r _ [105, 39, 9, 10, 11, 6, 12, 13, 14, 15, 165, 166, 167, 168, 169, 170, 171, 172, 173, 174, 163, 164] (by decide +kernel) (by decide +kernel)) (goodIn_sub (fun _ h => List.mem_cons_of_mem _ (List.mem_append_left _ (List.mem_append_right _ h))) (by decide +kernel))
set_option maxRecDepth 20000 in
theorem gL_near_X3_isOpen : GoodIn wsL_near (wsV RL 44 RX3 yX3_isOpen wsX3_isOpen) := goodIn_app (goodIn_of _ (by decide +kernel)) ggL_near_X3_isOpen
set_option maxRecDepth 20000 in
theorem ggL_near_X3_mark : GoodIn wsL_near wsX3_mark := goodIn_ca (goodIn_r _ [109, 110, 9, 10, 11, 6, 12, 13, 14, 15, 165, 166, 167, 168, 169, 170, 171, 172, 173, 174, 163, 164] (by decide +kernel) (by decide +kernel)) (goodIn_sub (fun _ h => List.mem_cons_of_mem _ (List.mem_append_left _ (List.mem_append_right _ h))) (by decide +kernel))
set_option maxRecDepth 20000 in
theorem gL_near_X3_mark : GoodIn wsL_near (wsV RL 48 RX3 yX3_mark wsX3_mark) := goodIn_app (goodIn_of _ (by decide +kernel)) ggL_near_X3_mark
set_option maxRecDepth 20000 in
theorem ggL_near_X3_stored : GoodIn wsL_near wsX3_stored := goodIn_ca (goodIn_r _ [114, 115, 116, 117, 9, 10, 11, 6, 12, 13, 14, 15, 118, 119, 120, 121, 122, 123, 165, 166, 167, 168, 169, 170, 171, 172, 173, 174, 181, 182, 183, 184, 163, 164] (by decide +kernel) (by decide +kernel)) (goodIn_sub (fun _ h => List.mem_cons_of_mem _ (List.mem_append_left _ (List.mem_append_right _ h))) (by decide +kernel))
set_option maxRecDepth 20000 in
theorem gL_near_X3_stored : GoodIn wsL_near (wsV RL 51 RX3 yX3_stored wsX3_stored) := goodIn_app (goodIn_of _ (by decide +kernel)) ggL_near_X3_stored
set_option maxRecDepth 20000 in
theorem ggL_near_X3_held : GoodIn wsL_near wsX3_held := goodIn_ca (goodIn_r _ [127, 115, 9, 10, 11, 6, 12, 13, 14, 15, 128, 129, 130, 79, 131, 81, 165, 166, 167, 168, 169, 170, 171, 172, 173, 174, 163, 164, 181, 182, 183, 184] (by decide +kernel) (by decide +kernel)) (goodIn_sub (fun _ h => List.mem_cons_of_mem _ (List.mem_append_left _ (List.mem_append_right _ h))) (by decide +kernel))
set_option maxRecDepth 20000 in
theorem gL_near_X3_held : GoodIn wsL_near (wsV RL 55 RX3 yX3_held wsX3_held) := goodIn_app (goodIn_of _ (by decide +kernel)) ggL_near_X3_held
set_option maxRecDepth 20000 in
theorem ggL_near_X3_wrong : GoodIn wsL_near wsX3_wrong := goodIn_ca (goodIn_r _ [135, 115, 136, 137, 9, 10, 11, 6, 12, 13, 14, 15, 138, 139, 140, 79, 141, 142, 143, 144, 145, 81, 82, 83, 84, 165, 166, 167, 168, 169, 170, 171, 172, 173, 174, 175, 176, 177, 178, 179, 180, 163, 164, 181, 182, 183, 184] (by decide +kernel) (by decide +kernel)) (goodIn_sub (fun _ h => List.mem_cons_of_mem _ (List.mem_append_left _ (List.mem_append_right _ h))) (by decide +kernel))
set_option maxRecDepth 20000 in
theorem gL_near_X3_wrong : GoodIn wsL_near (wsV RL 58 RX3 yX3_wrong wsX3_wrong) := goodIn_app (goodIn_of _ (by decide +kernel)) ggL_near_X3_wrong
set_option maxRecDepth 20000 in
theorem ggL_near_X3_copies : GoodIn wsL_near wsX3_copies := goodIn_ca (goodIn_r _ [149, 115, 121, 122, 6, 123, 13, 14, 9, 10, 11, 12, 15, 150, 151, 152, 79, 153, 81, 82, 165, 166, 167, 168, 169, 170, 171, 172, 173, 174, 163, 164, 181, 182, 183, 184] (by decide +kernel) (by decide +kernel)) (goodIn_sub (fun _ h => List.mem_cons_of_mem _ (List.mem_append_left _ (List.mem_append_right _ h))) (by decide +kernel))
set_option maxRecDepth 20000 in
theorem gL_near_X3_copies : GoodIn wsL_near (wsV RL 61 RX3 yX3_copies wsX3_copies) := goodIn_app (goodIn_of _ (by decide +kernel)) ggL_near_X3_copies
set_option maxRecDepth 20000 in
theorem ggL_near_X3_best : GoodIn wsL_near wsX3_best := goodIn_ca (goodIn_r _ [157, 115, 158, 121, 122, 6, 123, 13, 14, 9, 10, 11, 12, 15, 159, 160, 161, 79, 162, 81, 82, 84, 165, 166, 167, 168, 169, 170, 171, 172, 173, 174, 181, 182, 183, 184, 163, 164] (by decide +kernel) (by decide +kernel)) (goodIn_sub (fun _ h => List.mem_cons_of_mem _ (List.mem_append_left _ (List.mem_append_right _ h))) (by decide +kernel))
set_option maxRecDepth 20000 in
theorem gL_near_X3_best : GoodIn wsL_near (wsV RL 64 RX3 yX3_best wsX3_best) := goodIn_app (goodIn_of _ (by decide +kernel)) ggL_near_X3_best
theorem dL_near_0 : decode cL_near 0 = .ok (.iload_n 1, 1) := by decide +kernel
theorem dL_near_1 : decode cL_near 1 = .ok (.ifCond .ne 21, 3) := by decide +kernel
theorem dL_near_4 : decode cL_near 4 = .ok (.aload_n 0, 1) := by decide +kernel
theorem dL_near_5 : decode cL_near 5 = .ok (.iload_n 2, 1) := by decide +kernel
theorem dL_near_6 : decode cL_near 6 = .ok (.iload_n 3, 1) := by decide +kernel
theorem dL_near_7 : decode cL_near 7 = .ok (.iconst 1, 1) := by decide +kernel
theorem dL_near_8 : decode cL_near 8 = .ok (.if_icmp .ne 7, 3) := by decide +kernel
theorem dL_near_11 : decode cL_near 11 = .ok (.iconst 1, 1) := by decide +kernel
theorem dL_near_12 : decode cL_near 12 = .ok (.goto 4, 3) := by decide +kernel
theorem dL_near_15 : decode cL_near 15 = .ok (.iconst 0, 1) := by decide +kernel
theorem dL_near_16 : decode cL_near 16 = .ok (.invokevirtual 37, 3) := by decide +kernel
theorem dL_near_19 : decode cL_near 19 = .ok (.goto 110, 3) := by decide +kernel
theorem dL_near_22 : decode cL_near 22 = .ok (.iload_n 1, 1) := by decide +kernel
theorem dL_near_23 : decode cL_near 23 = .ok (.iconst 1, 1) := by decide +kernel
theorem dL_near_24 : decode cL_near 24 = .ok (.if_icmp .ne 11, 3) := by decide +kernel
theorem dL_near_27 : decode cL_near 27 = .ok (.aload_n 0, 1) := by decide +kernel
theorem dL_near_28 : decode cL_near 28 = .ok (.iload_n 2, 1) := by decide +kernel
theorem dL_near_29 : decode cL_near 29 = .ok (.invokevirtual 41, 3) := by decide +kernel
theorem dL_near_32 : decode cL_near 32 = .ok (.goto 97, 3) := by decide +kernel
theorem dL_near_35 : decode cL_near 35 = .ok (.iload_n 1, 1) := by decide +kernel
theorem dL_near_36 : decode cL_near 36 = .ok (.iconst 2, 1) := by decide +kernel
theorem dL_near_37 : decode cL_near 37 = .ok (.if_icmp .ne 19, 3) := by decide +kernel
theorem dL_near_40 : decode cL_near 40 = .ok (.aload_n 0, 1) := by decide +kernel
theorem dL_near_41 : decode cL_near 41 = .ok (.iload_n 2, 1) := by decide +kernel
theorem dL_near_42 : decode cL_near 42 = .ok (.invokevirtual 44, 3) := by decide +kernel
theorem dL_near_45 : decode cL_near 45 = .ok (.ifCond .eq 7, 3) := by decide +kernel
theorem dL_near_48 : decode cL_near 48 = .ok (.iconst 1, 1) := by decide +kernel
theorem dL_near_49 : decode cL_near 49 = .ok (.goto 80, 3) := by decide +kernel
theorem dL_near_52 : decode cL_near 52 = .ok (.iconst 0, 1) := by decide +kernel
theorem dL_near_53 : decode cL_near 53 = .ok (.goto 76, 3) := by decide +kernel
theorem dL_near_56 : decode cL_near 56 = .ok (.iload_n 1, 1) := by decide +kernel
theorem dL_near_57 : decode cL_near 57 = .ok (.iconst 3, 1) := by decide +kernel
theorem dL_near_58 : decode cL_near 58 = .ok (.if_icmp .ne 11, 3) := by decide +kernel
theorem dL_near_61 : decode cL_near 61 = .ok (.aload_n 0, 1) := by decide +kernel
theorem dL_near_62 : decode cL_near 62 = .ok (.iload_n 2, 1) := by decide +kernel
theorem dL_near_63 : decode cL_near 63 = .ok (.invokevirtual 48, 3) := by decide +kernel
theorem dL_near_66 : decode cL_near 66 = .ok (.goto 63, 3) := by decide +kernel
theorem dL_near_69 : decode cL_near 69 = .ok (.iload_n 1, 1) := by decide +kernel
theorem dL_near_70 : decode cL_near 70 = .ok (.iconst 4, 1) := by decide +kernel
theorem dL_near_71 : decode cL_near 71 = .ok (.if_icmp .ne 12, 3) := by decide +kernel
theorem dL_near_74 : decode cL_near 74 = .ok (.aload_n 0, 1) := by decide +kernel
theorem dL_near_75 : decode cL_near 75 = .ok (.iload_n 2, 1) := by decide +kernel
theorem dL_near_76 : decode cL_near 76 = .ok (.iload_n 3, 1) := by decide +kernel
theorem dL_near_77 : decode cL_near 77 = .ok (.invokevirtual 51, 3) := by decide +kernel
theorem dL_near_80 : decode cL_near 80 = .ok (.goto 49, 3) := by decide +kernel
theorem dL_near_83 : decode cL_near 83 = .ok (.iload_n 1, 1) := by decide +kernel
theorem dL_near_84 : decode cL_near 84 = .ok (.iconst 5, 1) := by decide +kernel
theorem dL_near_85 : decode cL_near 85 = .ok (.if_icmp .ne 11, 3) := by decide +kernel
theorem dL_near_88 : decode cL_near 88 = .ok (.aload_n 0, 1) := by decide +kernel
theorem dL_near_89 : decode cL_near 89 = .ok (.iload_n 2, 1) := by decide +kernel
theorem dL_near_90 : decode cL_near 90 = .ok (.invokevirtual 55, 3) := by decide +kernel
theorem dL_near_93 : decode cL_near 93 = .ok (.goto 36, 3) := by decide +kernel
theorem dL_near_96 : decode cL_near 96 = .ok (.iload_n 1, 1) := by decide +kernel
theorem dL_near_97 : decode cL_near 97 = .ok (.bipush 6, 2) := by decide +kernel
theorem dL_near_99 : decode cL_near 99 = .ok (.if_icmp .ne 11, 3) := by decide +kernel
theorem dL_near_102 : decode cL_near 102 = .ok (.aload_n 0, 1) := by decide +kernel
theorem dL_near_103 : decode cL_near 103 = .ok (.iload_n 2, 1) := by decide +kernel
theorem dL_near_104 : decode cL_near 104 = .ok (.invokevirtual 58, 3) := by decide +kernel
theorem dL_near_107 : decode cL_near 107 = .ok (.goto 22, 3) := by decide +kernel
theorem dL_near_110 : decode cL_near 110 = .ok (.iload_n 1, 1) := by decide +kernel
theorem dL_near_111 : decode cL_near 111 = .ok (.bipush 7, 2) := by decide +kernel
theorem dL_near_113 : decode cL_near 113 = .ok (.if_icmp .ne 11, 3) := by decide +kernel
theorem dL_near_116 : decode cL_near 116 = .ok (.aload_n 0, 1) := by decide +kernel
theorem dL_near_117 : decode cL_near 117 = .ok (.iload_n 2, 1) := by decide +kernel
theorem dL_near_118 : decode cL_near 118 = .ok (.invokevirtual 61, 3) := by decide +kernel
theorem dL_near_121 : decode cL_near 121 = .ok (.goto 8, 3) := by decide +kernel
theorem dL_near_124 : decode cL_near 124 = .ok (.aload_n 0, 1) := by decide +kernel
theorem dL_near_125 : decode cL_near 125 = .ok (.iload_n 2, 1) := by decide +kernel
theorem dL_near_126 : decode cL_near 126 = .ok (.invokevirtual 64, 3) := by decide +kernel
theorem dL_near_129 : decode cL_near 129 = .ok (.ireturn, 1) := by decide +kernel
theorem dL_near_130 : decode cL_near 130 = .ok (.astore 4, 2) := by decide +kernel
theorem dL_near_132 : decode cL_near 132 = .ok (.sipush (-992), 3) := by decide +kernel
theorem dL_near_135 : decode cL_near 135 = .ok (.ireturn, 1) := by decide +kernel
theorem dL_near_136 : decode cL_near 136 = .ok (.astore 4, 2) := by decide +kernel
theorem dL_near_138 : decode cL_near 138 = .ok (.sipush (-993), 3) := by decide +kernel
theorem dL_near_141 : decode cL_near 141 = .ok (.ireturn, 1) := by decide +kernel
set_option maxRecDepth 20000 in
theorem ggL_all_X3_today : GoodIn wsL_all wsX3_today := goodIn_r _ [11, 12, 72, 73] (by decide +kernel) (by decide +kernel)
set_option maxRecDepth 20000 in
theorem gL_all_X3_today : GoodIn wsL_all (wsV RL 67 RX3 yX3_today wsX3_today) := goodIn_app (goodIn_of _ (by decide +kernel)) ggL_all_X3_today
set_option maxRecDepth 20000 in
theorem ggL_all_X3_far : GoodIn wsL_all wsX3_far := goodIn_ca (goodIn_r _ [16, 17, 18, 19, 20, 21, 10, 22, 23, 24, 25, 26, 27, 28, 29, 30, 31, 74, 75, 76, 77, 78, 79, 80, 81, 82, 83, 84, 85, 86, 87, 88, 89, 72, 73, 90, 91, 92, 93] (by decide +kernel) (by decide +kernel)) (goodIn_sub (fun _ h => List.mem_cons_of_mem _ (List.mem_append_right _ h)) (by decide +kernel))
set_option maxRecDepth 20000 in
theorem gL_all_X3_far : GoodIn wsL_all (wsV RL 27 RX3 yX3_far wsX3_far) := goodIn_app (goodIn_of _ (by decide +kernel)) ggL_all_X3_far
set_option maxRecDepth 20000 in
theorem ggL_all_X3_told : GoodIn wsL_all wsX3_told := goodIn_ca (goodIn_r _ [35, 17, 19, 20, 21, 10, 22, 23, 24, 25, 36, 37, 38, 39, 40, 41, 74, 75, 76, 77, 78, 79, 80, 81, 82, 83, 72, 73, 84, 85, 86, 87, 88, 89] (by decide +kernel) (by decide +kernel)) (goodIn_sub (fun _ h => List.mem_cons_of_mem _ (List.mem_append_right _ h)) (by decide +kernel))
set_option maxRecDepth 20000 in
theorem gL_all_X3_told : GoodIn wsL_all (wsV RL 30 RX3 yX3_told wsX3_told) := goodIn_app (goodIn_of _ (by decide +kernel)) ggL_all_X3_told
set_option maxRecDepth 20000 in
theorem ggL_all_X3_held : GoodIn wsL_all wsX3_held := goodIn_ca (goodIn_r _ [45, 46, 19, 20, 21, 10, 22, 23, 24, 25, 26, 27, 28, 29, 30, 31, 74, 75, 76, 77, 78, 79, 80, 81, 82, 83, 72, 73, 90, 91, 92, 93] (by decide +kernel) (by decide +kernel)) (goodIn_sub (fun _ h => List.mem_cons_of_mem _ (List.mem_append_right _ h)) (by decide +kernel))
set_option maxRecDepth 20000 in
theorem gL_all_X3_held : GoodIn wsL_all (wsV RL 55 RX3 yX3_held wsX3_held) := goodIn_app (goodIn_of _ (by decide +kernel)) ggL_all_X3_held
set_option maxRecDepth 20000 in
theorem ggL_all_X3_wrong : GoodIn wsL_all wsX3_wrong := goodIn_ca (goodIn_r _ [50, 46, 17, 18, 19, 20, 21, 10, 22, 23, 24, 25, 51, 52, 53, 29, 54, 55, 56, 57, 58, 31, 59, 60, 61, 74, 75, 76, 77, 78, 79, 80, 81, 82, 83, 84, 85, 86, 87, 88, 89, 72, 73, 90, 91, 92, 93] (by decide +kernel) (by decide +kernel)) (goodIn_sub (fun _ h => List.mem_cons_of_mem _ (List.mem_append_right _ h)) (by decide +kernel))
set_option maxRecDepth 20000 in
theorem gL_all_X3_wrong : GoodIn wsL_all (wsV RL 58 RX3 yX3_wrong wsX3_wrong) := goodIn_app (goodIn_of _ (by decide +kernel)) ggL_all_X3_wrong
set_option maxRecDepth 20000 in
theorem ggL_all_X3_mark : GoodIn wsL_all wsX3_mark := goodIn_ca (goodIn_r _ [65, 66, 19, 20, 21, 10, 22, 23, 24, 25, 74, 75, 76, 77, 78, 79, 80, 81, 82, 83, 72, 73] (by decide +kernel) (by decide +kernel)) (goodIn_sub (fun _ h => List.mem_cons_of_mem _ (List.mem_append_right _ h)) (by decide +kernel))
set_option maxRecDepth 20000 in
theorem gL_all_X3_mark : GoodIn wsL_all (wsV RL 48 RX3 yX3_mark wsX3_mark) := goodIn_app (goodIn_of _ (by decide +kernel)) ggL_all_X3_mark
set_option maxRecDepth 20000 in
theorem ggL_all_X3_isOpen : GoodIn wsL_all wsX3_isOpen := goodIn_ca (goodIn_r _ [70, 71, 19, 20, 21, 10, 22, 23, 24, 25, 74, 75, 76, 77, 78, 79, 80, 81, 82, 83, 72, 73] (by decide +kernel) (by decide +kernel)) (goodIn_sub (fun _ h => List.mem_cons_of_mem _ (List.mem_append_right _ h)) (by decide +kernel))
set_option maxRecDepth 20000 in
theorem gL_all_X3_isOpen : GoodIn wsL_all (wsV RL 44 RX3 yX3_isOpen wsX3_isOpen) := goodIn_app (goodIn_of _ (by decide +kernel)) ggL_all_X3_isOpen
theorem dL_all_0 : decode cL_all 0 = .ok (.aload_n 0, 1) := by decide +kernel
theorem dL_all_1 : decode cL_all 1 = .ok (.invokevirtual 67, 3) := by decide +kernel
theorem dL_all_4 : decode cL_all 4 = .ok (.i2l, 1) := by decide +kernel
theorem dL_all_5 : decode cL_all 5 = .ok (.lstore_n 1, 1) := by decide +kernel
theorem dL_all_6 : decode cL_all 6 = .ok (.iconst 0, 1) := by decide +kernel
theorem dL_all_7 : decode cL_all 7 = .ok (.istore_n 3, 1) := by decide +kernel
theorem dL_all_8 : decode cL_all 8 = .ok (.iload_n 3, 1) := by decide +kernel
theorem dL_all_9 : decode cL_all 9 = .ok (.iconst 4, 1) := by decide +kernel
theorem dL_all_10 : decode cL_all 10 = .ok (.if_icmp .ge 82, 3) := by decide +kernel
theorem dL_all_13 : decode cL_all 13 = .ok (.ldc2_w 71, 3) := by decide +kernel
theorem dL_all_16 : decode cL_all 16 = .ok (.lload_n 1, 1) := by decide +kernel
theorem dL_all_17 : decode cL_all 17 = .ok (.lmul, 1) := by decide +kernel
theorem dL_all_18 : decode cL_all 18 = .ok (.aload_n 0, 1) := by decide +kernel
theorem dL_all_19 : decode cL_all 19 = .ok (.iload_n 3, 1) := by decide +kernel
theorem dL_all_20 : decode cL_all 20 = .ok (.invokevirtual 27, 3) := by decide +kernel
theorem dL_all_23 : decode cL_all 23 = .ok (.i2l, 1) := by decide +kernel
theorem dL_all_24 : decode cL_all 24 = .ok (.ladd, 1) := by decide +kernel
theorem dL_all_25 : decode cL_all 25 = .ok (.ldc2_w 73, 3) := by decide +kernel
theorem dL_all_28 : decode cL_all 28 = .ok (.aload_n 0, 1) := by decide +kernel
theorem dL_all_29 : decode cL_all 29 = .ok (.iload_n 3, 1) := by decide +kernel
theorem dL_all_30 : decode cL_all 30 = .ok (.invokevirtual 30, 3) := by decide +kernel
theorem dL_all_33 : decode cL_all 33 = .ok (.i2l, 1) := by decide +kernel
theorem dL_all_34 : decode cL_all 34 = .ok (.lmul, 1) := by decide +kernel
theorem dL_all_35 : decode cL_all 35 = .ok (.ladd, 1) := by decide +kernel
theorem dL_all_36 : decode cL_all 36 = .ok (.ldc2_w 75, 3) := by decide +kernel
theorem dL_all_39 : decode cL_all 39 = .ok (.aload_n 0, 1) := by decide +kernel
theorem dL_all_40 : decode cL_all 40 = .ok (.iload_n 3, 1) := by decide +kernel
theorem dL_all_41 : decode cL_all 41 = .ok (.invokevirtual 55, 3) := by decide +kernel
theorem dL_all_44 : decode cL_all 44 = .ok (.i2l, 1) := by decide +kernel
theorem dL_all_45 : decode cL_all 45 = .ok (.lmul, 1) := by decide +kernel
theorem dL_all_46 : decode cL_all 46 = .ok (.ladd, 1) := by decide +kernel
theorem dL_all_47 : decode cL_all 47 = .ok (.ldc2_w 77, 3) := by decide +kernel
theorem dL_all_50 : decode cL_all 50 = .ok (.aload_n 0, 1) := by decide +kernel
theorem dL_all_51 : decode cL_all 51 = .ok (.iload_n 3, 1) := by decide +kernel
theorem dL_all_52 : decode cL_all 52 = .ok (.invokevirtual 58, 3) := by decide +kernel
theorem dL_all_55 : decode cL_all 55 = .ok (.i2l, 1) := by decide +kernel
theorem dL_all_56 : decode cL_all 56 = .ok (.lmul, 1) := by decide +kernel
theorem dL_all_57 : decode cL_all 57 = .ok (.ladd, 1) := by decide +kernel
theorem dL_all_58 : decode cL_all 58 = .ok (.ldc2_w 79, 3) := by decide +kernel
theorem dL_all_61 : decode cL_all 61 = .ok (.aload_n 0, 1) := by decide +kernel
theorem dL_all_62 : decode cL_all 62 = .ok (.iload_n 3, 1) := by decide +kernel
theorem dL_all_63 : decode cL_all 63 = .ok (.invokevirtual 48, 3) := by decide +kernel
theorem dL_all_66 : decode cL_all 66 = .ok (.i2l, 1) := by decide +kernel
theorem dL_all_67 : decode cL_all 67 = .ok (.lmul, 1) := by decide +kernel
theorem dL_all_68 : decode cL_all 68 = .ok (.ladd, 1) := by decide +kernel
theorem dL_all_69 : decode cL_all 69 = .ok (.aload_n 0, 1) := by decide +kernel
theorem dL_all_70 : decode cL_all 70 = .ok (.iload_n 3, 1) := by decide +kernel
theorem dL_all_71 : decode cL_all 71 = .ok (.invokevirtual 44, 3) := by decide +kernel
theorem dL_all_74 : decode cL_all 74 = .ok (.ifCond .eq 9, 3) := by decide +kernel
theorem dL_all_77 : decode cL_all 77 = .ok (.ldc2_w 81, 3) := by decide +kernel
theorem dL_all_80 : decode cL_all 80 = .ok (.goto 4, 3) := by decide +kernel
theorem dL_all_83 : decode cL_all 83 = .ok (.lconst 0, 1) := by decide +kernel
theorem dL_all_84 : decode cL_all 84 = .ok (.ladd, 1) := by decide +kernel
theorem dL_all_85 : decode cL_all 85 = .ok (.lstore_n 1, 1) := by decide +kernel
theorem dL_all_86 : decode cL_all 86 = .ok (.iinc 3 1, 3) := by decide +kernel
theorem dL_all_89 : decode cL_all 89 = .ok (.goto (-81), 3) := by decide +kernel
theorem dL_all_92 : decode cL_all 92 = .ok (.lload_n 1, 1) := by decide +kernel
theorem dL_all_93 : decode cL_all 93 = .ok (.lreturn, 1) := by decide +kernel
theorem dL_stampOf_0 : decode cL_stampOf 0 = .ok (.iload_n 0, 1) := by decide +kernel
theorem dL_stampOf_1 : decode cL_stampOf 1 = .ok (.iconst (-1), 1) := by decide +kernel
theorem dL_stampOf_2 : decode cL_stampOf 2 = .ok (.if_icmp .ge 10, 3) := by decide +kernel
theorem dL_stampOf_5 : decode cL_stampOf 5 = .ok (.bipush (-2), 2) := by decide +kernel
theorem dL_stampOf_7 : decode cL_stampOf 7 = .ok (.iload_n 0, 1) := by decide +kernel
theorem dL_stampOf_8 : decode cL_stampOf 8 = .ok (.isub, 1) := by decide +kernel
theorem dL_stampOf_9 : decode cL_stampOf 9 = .ok (.goto 7, 3) := by decide +kernel
theorem dL_stampOf_12 : decode cL_stampOf 12 = .ok (.iload_n 0, 1) := by decide +kernel
theorem dL_stampOf_13 : decode cL_stampOf 13 = .ok (.bipush 14, 2) := by decide +kernel
theorem dL_stampOf_15 : decode cL_stampOf 15 = .ok (.ishr, 1) := by decide +kernel
theorem dL_stampOf_16 : decode cL_stampOf 16 = .ok (.ireturn, 1) := by decide +kernel
set_option maxRecDepth 20000 in
theorem ggL_areAll_X3_stored : GoodIn wsL_areAll wsX3_stored := goodIn_ca (goodIn_r _ [5, 6, 7, 8, 9, 10, 11, 4, 12, 13, 14, 15, 16, 17, 18, 19, 20, 21, 89, 90, 91, 92, 93, 94, 95, 96, 97, 98, 99, 100, 101, 102, 103, 104] (by decide +kernel) (by decide +kernel)) (goodIn_sub (fun _ h => List.mem_cons_of_mem _ (List.mem_append_right _ h)) (by decide +kernel))
set_option maxRecDepth 20000 in
theorem gL_areAll_X3_stored : GoodIn wsL_areAll (wsV RL 51 RX3 yX3_stored wsX3_stored) := goodIn_app (goodIn_of _ (by decide +kernel)) ggL_areAll_X3_stored
set_option maxRecDepth 20000 in
theorem ggL_areAll_X3_far : GoodIn wsL_areAll wsX3_far := goodIn_ca (goodIn_r _ [25, 26, 27, 9, 10, 11, 4, 12, 13, 14, 15, 28, 29, 30, 31, 32, 33, 89, 90, 91, 92, 93, 94, 95, 96, 97, 98, 105, 106, 107, 108, 109, 110, 103, 104, 99, 100, 101, 102] (by decide +kernel) (by decide +kernel)) (goodIn_sub (fun _ h => List.mem_cons_of_mem _ (List.mem_append_right _ h)) (by decide +kernel))
set_option maxRecDepth 20000 in
theorem gL_areAll_X3_far : GoodIn wsL_areAll (wsV RL 27 RX3 yX3_far wsX3_far) := goodIn_app (goodIn_of _ (by decide +kernel)) ggL_areAll_X3_far
set_option maxRecDepth 20000 in
theorem ggL_areAll_X3_told : GoodIn wsL_areAll wsX3_told := goodIn_ca (goodIn_r _ [37, 26, 9, 10, 11, 4, 12, 13, 14, 15, 38, 39, 40, 41, 42, 43, 89, 90, 91, 92, 93, 94, 95, 96, 97, 98, 103, 104, 105, 106, 107, 108, 109, 110] (by decide +kernel) (by decide +kernel)) (goodIn_sub (fun _ h => List.mem_cons_of_mem _ (List.mem_append_right _ h)) (by decide +kernel))
set_option maxRecDepth 20000 in
theorem gL_areAll_X3_told : GoodIn wsL_areAll (wsV RL 30 RX3 yX3_told wsX3_told) := goodIn_app (goodIn_of _ (by decide +kernel)) ggL_areAll_X3_told
set_option maxRecDepth 20000 in
theorem ggL_areAll_X3_held : GoodIn wsL_areAll wsX3_held := goodIn_ca (goodIn_r _ [47, 6, 9, 10, 11, 4, 12, 13, 14, 15, 28, 29, 30, 31, 32, 33, 89, 90, 91, 92, 93, 94, 95, 96, 97, 98, 103, 104, 99, 100, 101, 102] (by decide +kernel) (by decide +kernel)) (goodIn_sub (fun _ h => List.mem_cons_of_mem _ (List.mem_append_right _ h)) (by decide +kernel))
set_option maxRecDepth 20000 in
theorem gL_areAll_X3_held : GoodIn wsL_areAll (wsV RL 55 RX3 yX3_held wsX3_held) := goodIn_app (goodIn_of _ (by decide +kernel)) ggL_areAll_X3_held
set_option maxRecDepth 20000 in
theorem ggL_areAll_X3_wrong : GoodIn wsL_areAll wsX3_wrong := goodIn_ca (goodIn_r _ [51, 6, 26, 27, 9, 10, 11, 4, 12, 13, 14, 15, 52, 53, 54, 31, 55, 56, 57, 58, 59, 33, 60, 61, 62, 89, 90, 91, 92, 93, 94, 95, 96, 97, 98, 105, 106, 107, 108, 109, 110, 103, 104, 99, 100, 101, 102] (by decide +kernel) (by decide +kernel)) (goodIn_sub (fun _ h => List.mem_cons_of_mem _ (List.mem_append_right _ h)) (by decide +kernel))
set_option maxRecDepth 20000 in
theorem gL_areAll_X3_wrong : GoodIn wsL_areAll (wsV RL 58 RX3 yX3_wrong wsX3_wrong) := goodIn_app (goodIn_of _ (by decide +kernel)) ggL_areAll_X3_wrong
set_option maxRecDepth 20000 in
theorem ggL_areAll_X3_isOpen : GoodIn wsL_areAll wsX3_isOpen := goodIn_ca (goodIn_r _ [66, 67, 9, 10, 11, 4, 12, 13, 14, 15, 89, 90, 91, 92, 93, 94, 95, 96, 97, 98, 103, 104] (by decide +kernel) (by decide +kernel)) (goodIn_sub (fun _ h => List.mem_cons_of_mem _ (List.mem_append_right _ h)) (by decide +kernel))
set_option maxRecDepth 20000 in
theorem gL_areAll_X3_isOpen : GoodIn wsL_areAll (wsV RL 44 RX3 yX3_isOpen wsX3_isOpen) := goodIn_app (goodIn_of _ (by decide +kernel)) ggL_areAll_X3_isOpen
set_option maxRecDepth 20000 in
theorem ggL_areAll_X3_best : GoodIn wsL_areAll wsX3_best := goodIn_ca (goodIn_r _ [71, 6, 72, 19, 20, 4, 21, 13, 14, 9, 10, 11, 12, 15, 73, 74, 75, 31, 76, 33, 60, 62, 89, 90, 91, 92, 93, 94, 95, 96, 97, 98, 99, 100, 101, 102, 103, 104] (by decide +kernel) (by decide +kernel)) (goodIn_sub (fun _ h => List.mem_cons_of_mem _ (List.mem_append_right _ h)) (by decide +kernel))
set_option maxRecDepth 20000 in
theorem gL_areAll_X3_best : GoodIn wsL_areAll (wsV RL 64 RX3 yX3_best wsX3_best) := goodIn_app (goodIn_of _ (by decide +kernel)) ggL_areAll_X3_best
set_option maxRecDepth 20000 in
theorem ggL_areAll_L_stampOf : GoodIn wsL_areAll wsL_stampOf := goodIn_r _ [80] (by decide +kernel) (by decide +kernel)
set_option maxRecDepth 20000 in
theorem gL_areAll_L_stampOf : GoodIn wsL_areAll (va_wsS RL 83 yL_stampOf wsL_stampOf) := goodIn_app (goodIn_of _ (by decide +kernel)) ggL_areAll_L_stampOf
set_option maxRecDepth 20000 in
theorem ggL_areAll_X3_copies : GoodIn wsL_areAll wsX3_copies := goodIn_ca (goodIn_r _ [84, 6, 19, 20, 4, 21, 13, 14, 9, 10, 11, 12, 15, 85, 86, 87, 31, 88, 33, 60, 89, 90, 91, 92, 93, 94, 95, 96, 97, 98, 103, 104, 99, 100, 101, 102] (by decide +kernel) (by decide +kernel)) (goodIn_sub (fun _ h => List.mem_cons_of_mem _ (List.mem_append_right _ h)) (by decide +kernel))
set_option maxRecDepth 20000 in
theorem gL_areAll_X3_copies : GoodIn wsL_areAll (wsV RL 61 RX3 yX3_copies wsX3_copies) := goodIn_app (goodIn_of _ (by decide +kernel)) ggL_areAll_X3_copies
theorem dL_areAll_0 : decode cL_areAll 0 = .ok (.iconst 1, 1) := by decide +kernel
theorem dL_areAll_1 : decode cL_areAll 1 = .ok (.istore 4, 2) := by decide +kernel
theorem dL_areAll_3 : decode cL_areAll 3 = .ok (.iconst 0, 1) := by decide +kernel
theorem dL_areAll_4 : decode cL_areAll 4 = .ok (.istore 5, 2) := by decide +kernel
theorem dL_areAll_6 : decode cL_areAll 6 = .ok (.iload 5, 2) := by decide +kernel
theorem dL_areAll_8 : decode cL_areAll 8 = .ok (.iconst 3, 1) := by decide +kernel
theorem dL_areAll_9 : decode cL_areAll 9 = .ok (.if_icmp .ge 273, 3) := by decide +kernel
theorem dL_areAll_12 : decode cL_areAll 12 = .ok (.iload 4, 2) := by decide +kernel
theorem dL_areAll_14 : decode cL_areAll 14 = .ok (.ifCond .eq 268, 3) := by decide +kernel
theorem dL_areAll_17 : decode cL_areAll 17 = .ok (.iconst 0, 1) := by decide +kernel
theorem dL_areAll_18 : decode cL_areAll 18 = .ok (.istore 6, 2) := by decide +kernel
theorem dL_areAll_20 : decode cL_areAll 20 = .ok (.iconst 0, 1) := by decide +kernel
theorem dL_areAll_21 : decode cL_areAll 21 = .ok (.istore 7, 2) := by decide +kernel
theorem dL_areAll_23 : decode cL_areAll 23 = .ok (.iconst 0, 1) := by decide +kernel
theorem dL_areAll_24 : decode cL_areAll 24 = .ok (.istore 8, 2) := by decide +kernel
theorem dL_areAll_26 : decode cL_areAll 26 = .ok (.iconst 0, 1) := by decide +kernel
theorem dL_areAll_27 : decode cL_areAll 27 = .ok (.istore 9, 2) := by decide +kernel
theorem dL_areAll_29 : decode cL_areAll 29 = .ok (.bipush 20, 2) := by decide +kernel
theorem dL_areAll_31 : decode cL_areAll 31 = .ok (.iload 5, 2) := by decide +kernel
theorem dL_areAll_33 : decode cL_areAll 33 = .ok (.imul, 1) := by decide +kernel
theorem dL_areAll_34 : decode cL_areAll 34 = .ok (.istore 10, 2) := by decide +kernel
theorem dL_areAll_36 : decode cL_areAll 36 = .ok (.iload 10, 2) := by decide +kernel
theorem dL_areAll_38 : decode cL_areAll 38 = .ok (.bipush 20, 2) := by decide +kernel
theorem dL_areAll_40 : decode cL_areAll 40 = .ok (.iload 5, 2) := by decide +kernel
theorem dL_areAll_42 : decode cL_areAll 42 = .ok (.imul, 1) := by decide +kernel
theorem dL_areAll_43 : decode cL_areAll 43 = .ok (.bipush 20, 2) := by decide +kernel
theorem dL_areAll_45 : decode cL_areAll 45 = .ok (.iadd, 1) := by decide +kernel
theorem dL_areAll_46 : decode cL_areAll 46 = .ok (.if_icmp .ge 149, 3) := by decide +kernel
theorem dL_areAll_49 : decode cL_areAll 49 = .ok (.iload 4, 2) := by decide +kernel
theorem dL_areAll_51 : decode cL_areAll 51 = .ok (.ifCond .eq 144, 3) := by decide +kernel
theorem dL_areAll_54 : decode cL_areAll 54 = .ok (.iload 6, 2) := by decide +kernel
theorem dL_areAll_56 : decode cL_areAll 56 = .ok (.aload_n 1, 1) := by decide +kernel
theorem dL_areAll_57 : decode cL_areAll 57 = .ok (.iload 10, 2) := by decide +kernel
theorem dL_areAll_59 : decode cL_areAll 59 = .ok (.iaload, 1) := by decide +kernel
theorem dL_areAll_60 : decode cL_areAll 60 = .ok (.ifCond .lt 7, 3) := by decide +kernel
theorem dL_areAll_63 : decode cL_areAll 63 = .ok (.iconst 1, 1) := by decide +kernel
theorem dL_areAll_64 : decode cL_areAll 64 = .ok (.goto 4, 3) := by decide +kernel
theorem dL_areAll_67 : decode cL_areAll 67 = .ok (.iconst 0, 1) := by decide +kernel
theorem dL_areAll_68 : decode cL_areAll 68 = .ok (.iadd, 1) := by decide +kernel
theorem dL_areAll_69 : decode cL_areAll 69 = .ok (.istore 6, 2) := by decide +kernel
theorem dL_areAll_71 : decode cL_areAll 71 = .ok (.iload 7, 2) := by decide +kernel
theorem dL_areAll_73 : decode cL_areAll 73 = .ok (.aload_n 1, 1) := by decide +kernel
theorem dL_areAll_74 : decode cL_areAll 74 = .ok (.iload 10, 2) := by decide +kernel
theorem dL_areAll_76 : decode cL_areAll 76 = .ok (.iaload, 1) := by decide +kernel
theorem dL_areAll_77 : decode cL_areAll 77 = .ok (.iconst (-1), 1) := by decide +kernel
theorem dL_areAll_78 : decode cL_areAll 78 = .ok (.if_icmp .ge 7, 3) := by decide +kernel
theorem dL_areAll_81 : decode cL_areAll 81 = .ok (.iconst 1, 1) := by decide +kernel
theorem dL_areAll_82 : decode cL_areAll 82 = .ok (.goto 4, 3) := by decide +kernel
theorem dL_areAll_85 : decode cL_areAll 85 = .ok (.iconst 0, 1) := by decide +kernel
theorem dL_areAll_86 : decode cL_areAll 86 = .ok (.iadd, 1) := by decide +kernel
theorem dL_areAll_87 : decode cL_areAll 87 = .ok (.istore 7, 2) := by decide +kernel
theorem dL_areAll_89 : decode cL_areAll 89 = .ok (.iload 8, 2) := by decide +kernel
theorem dL_areAll_91 : decode cL_areAll 91 = .ok (.aload_n 2, 1) := by decide +kernel
theorem dL_areAll_92 : decode cL_areAll 92 = .ok (.iload 10, 2) := by decide +kernel
theorem dL_areAll_94 : decode cL_areAll 94 = .ok (.iaload, 1) := by decide +kernel
theorem dL_areAll_95 : decode cL_areAll 95 = .ok (.ifCond .lt 7, 3) := by decide +kernel
theorem dL_areAll_98 : decode cL_areAll 98 = .ok (.iconst 1, 1) := by decide +kernel
theorem dL_areAll_99 : decode cL_areAll 99 = .ok (.goto 4, 3) := by decide +kernel
theorem dL_areAll_102 : decode cL_areAll 102 = .ok (.iconst 0, 1) := by decide +kernel
theorem dL_areAll_103 : decode cL_areAll 103 = .ok (.iadd, 1) := by decide +kernel
theorem dL_areAll_104 : decode cL_areAll 104 = .ok (.istore 8, 2) := by decide +kernel
theorem dL_areAll_106 : decode cL_areAll 106 = .ok (.iload 9, 2) := by decide +kernel
theorem dL_areAll_108 : decode cL_areAll 108 = .ok (.aload_n 1, 1) := by decide +kernel
theorem dL_areAll_109 : decode cL_areAll 109 = .ok (.iload 10, 2) := by decide +kernel
theorem dL_areAll_111 : decode cL_areAll 111 = .ok (.iaload, 1) := by decide +kernel
theorem dL_areAll_112 : decode cL_areAll 112 = .ok (.ifCond .lt 22, 3) := by decide +kernel
theorem dL_areAll_115 : decode cL_areAll 115 = .ok (.aload_n 1, 1) := by decide +kernel
theorem dL_areAll_116 : decode cL_areAll 116 = .ok (.iload 10, 2) := by decide +kernel
theorem dL_areAll_118 : decode cL_areAll 118 = .ok (.iaload, 1) := by decide +kernel
theorem dL_areAll_119 : decode cL_areAll 119 = .ok (.aload_n 2, 1) := by decide +kernel
theorem dL_areAll_120 : decode cL_areAll 120 = .ok (.iload 10, 2) := by decide +kernel
theorem dL_areAll_122 : decode cL_areAll 122 = .ok (.iaload, 1) := by decide +kernel
theorem dL_areAll_123 : decode cL_areAll 123 = .ok (.if_icmp .ne 7, 3) := by decide +kernel
theorem dL_areAll_126 : decode cL_areAll 126 = .ok (.iconst 0, 1) := by decide +kernel
theorem dL_areAll_127 : decode cL_areAll 127 = .ok (.goto 19, 3) := by decide +kernel
theorem dL_areAll_130 : decode cL_areAll 130 = .ok (.iconst 1, 1) := by decide +kernel
theorem dL_areAll_131 : decode cL_areAll 131 = .ok (.goto 15, 3) := by decide +kernel
theorem dL_areAll_134 : decode cL_areAll 134 = .ok (.aload_n 2, 1) := by decide +kernel
theorem dL_areAll_135 : decode cL_areAll 135 = .ok (.iload 10, 2) := by decide +kernel
theorem dL_areAll_137 : decode cL_areAll 137 = .ok (.iaload, 1) := by decide +kernel
theorem dL_areAll_138 : decode cL_areAll 138 = .ok (.ifCond .lt 7, 3) := by decide +kernel
theorem dL_areAll_141 : decode cL_areAll 141 = .ok (.iconst 1, 1) := by decide +kernel
theorem dL_areAll_142 : decode cL_areAll 142 = .ok (.goto 4, 3) := by decide +kernel
theorem dL_areAll_145 : decode cL_areAll 145 = .ok (.iconst 0, 1) := by decide +kernel
theorem dL_areAll_146 : decode cL_areAll 146 = .ok (.iadd, 1) := by decide +kernel
theorem dL_areAll_147 : decode cL_areAll 147 = .ok (.istore 9, 2) := by decide +kernel
theorem dL_areAll_149 : decode cL_areAll 149 = .ok (.aload_n 0, 1) := by decide +kernel
theorem dL_areAll_150 : decode cL_areAll 150 = .ok (.iload 5, 2) := by decide +kernel
theorem dL_areAll_152 : decode cL_areAll 152 = .ok (.iload 10, 2) := by decide +kernel
theorem dL_areAll_154 : decode cL_areAll 154 = .ok (.bipush 20, 2) := by decide +kernel
theorem dL_areAll_156 : decode cL_areAll 156 = .ok (.irem, 1) := by decide +kernel
theorem dL_areAll_157 : decode cL_areAll 157 = .ok (.invokevirtual 51, 3) := by decide +kernel
theorem dL_areAll_160 : decode cL_areAll 160 = .ok (.aload_n 2, 1) := by decide +kernel
theorem dL_areAll_161 : decode cL_areAll 161 = .ok (.iload 10, 2) := by decide +kernel
theorem dL_areAll_163 : decode cL_areAll 163 = .ok (.iaload, 1) := by decide +kernel
theorem dL_areAll_164 : decode cL_areAll 164 = .ok (.ifCond .ge 7, 3) := by decide +kernel
theorem dL_areAll_167 : decode cL_areAll 167 = .ok (.iconst (-1), 1) := by decide +kernel
theorem dL_areAll_168 : decode cL_areAll 168 = .ok (.goto 11, 3) := by decide +kernel
theorem dL_areAll_171 : decode cL_areAll 171 = .ok (.aload_n 2, 1) := by decide +kernel
theorem dL_areAll_172 : decode cL_areAll 172 = .ok (.iload 10, 2) := by decide +kernel
theorem dL_areAll_174 : decode cL_areAll 174 = .ok (.iaload, 1) := by decide +kernel
theorem dL_areAll_175 : decode cL_areAll 175 = .ok (.sipush 1023, 3) := by decide +kernel
theorem dL_areAll_178 : decode cL_areAll 178 = .ok (.iand, 1) := by decide +kernel
theorem dL_areAll_179 : decode cL_areAll 179 = .ok (.if_icmp .ne 7, 3) := by decide +kernel
theorem dL_areAll_182 : decode cL_areAll 182 = .ok (.iconst 1, 1) := by decide +kernel
theorem dL_areAll_183 : decode cL_areAll 183 = .ok (.goto 4, 3) := by decide +kernel
theorem dL_areAll_186 : decode cL_areAll 186 = .ok (.iconst 0, 1) := by decide +kernel
theorem dL_areAll_187 : decode cL_areAll 187 = .ok (.istore 4, 2) := by decide +kernel
theorem dL_areAll_189 : decode cL_areAll 189 = .ok (.iinc 10 1, 3) := by decide +kernel
theorem dL_areAll_192 : decode cL_areAll 192 = .ok (.goto (-156), 3) := by decide +kernel
theorem dL_areAll_195 : decode cL_areAll 195 = .ok (.iload 4, 2) := by decide +kernel
theorem dL_areAll_197 : decode cL_areAll 197 = .ok (.ifCond .eq 76, 3) := by decide +kernel
theorem dL_areAll_200 : decode cL_areAll 200 = .ok (.aload_n 0, 1) := by decide +kernel
theorem dL_areAll_201 : decode cL_areAll 201 = .ok (.iload 5, 2) := by decide +kernel
theorem dL_areAll_203 : decode cL_areAll 203 = .ok (.invokevirtual 27, 3) := by decide +kernel
theorem dL_areAll_206 : decode cL_areAll 206 = .ok (.iload 6, 2) := by decide +kernel
theorem dL_areAll_208 : decode cL_areAll 208 = .ok (.if_icmp .ne 65, 3) := by decide +kernel
theorem dL_areAll_211 : decode cL_areAll 211 = .ok (.aload_n 0, 1) := by decide +kernel
theorem dL_areAll_212 : decode cL_areAll 212 = .ok (.iload 5, 2) := by decide +kernel
theorem dL_areAll_214 : decode cL_areAll 214 = .ok (.invokevirtual 30, 3) := by decide +kernel
theorem dL_areAll_217 : decode cL_areAll 217 = .ok (.iload 7, 2) := by decide +kernel
theorem dL_areAll_219 : decode cL_areAll 219 = .ok (.if_icmp .ne 54, 3) := by decide +kernel
theorem dL_areAll_222 : decode cL_areAll 222 = .ok (.aload_n 0, 1) := by decide +kernel
theorem dL_areAll_223 : decode cL_areAll 223 = .ok (.iload 5, 2) := by decide +kernel
theorem dL_areAll_225 : decode cL_areAll 225 = .ok (.invokevirtual 55, 3) := by decide +kernel
theorem dL_areAll_228 : decode cL_areAll 228 = .ok (.iload 8, 2) := by decide +kernel
theorem dL_areAll_230 : decode cL_areAll 230 = .ok (.if_icmp .ne 43, 3) := by decide +kernel
theorem dL_areAll_233 : decode cL_areAll 233 = .ok (.aload_n 0, 1) := by decide +kernel
theorem dL_areAll_234 : decode cL_areAll 234 = .ok (.iload 5, 2) := by decide +kernel
theorem dL_areAll_236 : decode cL_areAll 236 = .ok (.invokevirtual 58, 3) := by decide +kernel
theorem dL_areAll_239 : decode cL_areAll 239 = .ok (.iload 9, 2) := by decide +kernel
theorem dL_areAll_241 : decode cL_areAll 241 = .ok (.if_icmp .ne 32, 3) := by decide +kernel
theorem dL_areAll_244 : decode cL_areAll 244 = .ok (.aload_n 0, 1) := by decide +kernel
theorem dL_areAll_245 : decode cL_areAll 245 = .ok (.iload 5, 2) := by decide +kernel
theorem dL_areAll_247 : decode cL_areAll 247 = .ok (.invokevirtual 44, 3) := by decide +kernel
theorem dL_areAll_250 : decode cL_areAll 250 = .ok (.aload_n 3, 1) := by decide +kernel
theorem dL_areAll_251 : decode cL_areAll 251 = .ok (.iconst 4, 1) := by decide +kernel
theorem dL_areAll_252 : decode cL_areAll 252 = .ok (.iload 5, 2) := by decide +kernel
theorem dL_areAll_254 : decode cL_areAll 254 = .ok (.imul, 1) := by decide +kernel
theorem dL_areAll_255 : decode cL_areAll 255 = .ok (.iconst 2, 1) := by decide +kernel
theorem dL_areAll_256 : decode cL_areAll 256 = .ok (.iadd, 1) := by decide +kernel
theorem dL_areAll_257 : decode cL_areAll 257 = .ok (.iaload, 1) := by decide +kernel
theorem dL_areAll_258 : decode cL_areAll 258 = .ok (.ifCond .le 7, 3) := by decide +kernel
theorem dL_areAll_261 : decode cL_areAll 261 = .ok (.iconst 1, 1) := by decide +kernel
theorem dL_areAll_262 : decode cL_areAll 262 = .ok (.goto 4, 3) := by decide +kernel
theorem dL_areAll_265 : decode cL_areAll 265 = .ok (.iconst 0, 1) := by decide +kernel
theorem dL_areAll_266 : decode cL_areAll 266 = .ok (.if_icmp .ne 7, 3) := by decide +kernel
theorem dL_areAll_269 : decode cL_areAll 269 = .ok (.iconst 1, 1) := by decide +kernel
theorem dL_areAll_270 : decode cL_areAll 270 = .ok (.goto 4, 3) := by decide +kernel
theorem dL_areAll_273 : decode cL_areAll 273 = .ok (.iconst 0, 1) := by decide +kernel
theorem dL_areAll_274 : decode cL_areAll 274 = .ok (.istore 4, 2) := by decide +kernel
theorem dL_areAll_276 : decode cL_areAll 276 = .ok (.iinc 5 1, 3) := by decide +kernel
theorem dL_areAll_279 : decode cL_areAll 279 = .ok (.goto (-273), 3) := by decide +kernel
theorem dL_areAll_282 : decode cL_areAll 282 = .ok (.iconst 0, 1) := by decide +kernel
theorem dL_areAll_283 : decode cL_areAll 283 = .ok (.istore 5, 2) := by decide +kernel
theorem dL_areAll_285 : decode cL_areAll 285 = .ok (.iconst 0, 1) := by decide +kernel
theorem dL_areAll_286 : decode cL_areAll 286 = .ok (.istore 6, 2) := by decide +kernel
theorem dL_areAll_288 : decode cL_areAll 288 = .ok (.iload 6, 2) := by decide +kernel
theorem dL_areAll_290 : decode cL_areAll 290 = .ok (.bipush 10, 2) := by decide +kernel
theorem dL_areAll_292 : decode cL_areAll 292 = .ok (.if_icmp .ge 254, 3) := by decide +kernel
theorem dL_areAll_295 : decode cL_areAll 295 = .ok (.iload 4, 2) := by decide +kernel
theorem dL_areAll_297 : decode cL_areAll 297 = .ok (.ifCond .eq 249, 3) := by decide +kernel
theorem dL_areAll_300 : decode cL_areAll 300 = .ok (.aload_n 0, 1) := by decide +kernel
theorem dL_areAll_301 : decode cL_areAll 301 = .ok (.iload 6, 2) := by decide +kernel
theorem dL_areAll_303 : decode cL_areAll 303 = .ok (.invokevirtual 64, 3) := by decide +kernel
theorem dL_areAll_306 : decode cL_areAll 306 = .ok (.istore 7, 2) := by decide +kernel
theorem dL_areAll_308 : decode cL_areAll 308 = .ok (.iconst 0, 1) := by decide +kernel
theorem dL_areAll_309 : decode cL_areAll 309 = .ok (.istore 8, 2) := by decide +kernel
theorem dL_areAll_311 : decode cL_areAll 311 = .ok (.iload 7, 2) := by decide +kernel
theorem dL_areAll_313 : decode cL_areAll 313 = .ok (.iconst (-1), 1) := by decide +kernel
theorem dL_areAll_314 : decode cL_areAll 314 = .ok (.if_icmp .ne 7, 3) := by decide +kernel
theorem dL_areAll_317 : decode cL_areAll 317 = .ok (.iconst 1, 1) := by decide +kernel
theorem dL_areAll_318 : decode cL_areAll 318 = .ok (.goto 4, 3) := by decide +kernel
theorem dL_areAll_321 : decode cL_areAll 321 = .ok (.iconst 0, 1) := by decide +kernel
theorem dL_areAll_322 : decode cL_areAll 322 = .ok (.istore 9, 2) := by decide +kernel
theorem dL_areAll_324 : decode cL_areAll 324 = .ok (.iconst 0, 1) := by decide +kernel
theorem dL_areAll_325 : decode cL_areAll 325 = .ok (.istore 10, 2) := by decide +kernel
theorem dL_areAll_327 : decode cL_areAll 327 = .ok (.iload 10, 2) := by decide +kernel
theorem dL_areAll_329 : decode cL_areAll 329 = .ok (.bipush 60, 2) := by decide +kernel
theorem dL_areAll_331 : decode cL_areAll 331 = .ok (.if_icmp .ge 151, 3) := by decide +kernel
theorem dL_areAll_334 : decode cL_areAll 334 = .ok (.iload 4, 2) := by decide +kernel
theorem dL_areAll_336 : decode cL_areAll 336 = .ok (.ifCond .eq 146, 3) := by decide +kernel
theorem dL_areAll_339 : decode cL_areAll 339 = .ok (.aload_n 2, 1) := by decide +kernel
theorem dL_areAll_340 : decode cL_areAll 340 = .ok (.iload 10, 2) := by decide +kernel
theorem dL_areAll_342 : decode cL_areAll 342 = .ok (.iaload, 1) := by decide +kernel
theorem dL_areAll_343 : decode cL_areAll 343 = .ok (.ifCond .lt 133, 3) := by decide +kernel
theorem dL_areAll_346 : decode cL_areAll 346 = .ok (.aload_n 2, 1) := by decide +kernel
theorem dL_areAll_347 : decode cL_areAll 347 = .ok (.iload 10, 2) := by decide +kernel
theorem dL_areAll_349 : decode cL_areAll 349 = .ok (.iaload, 1) := by decide +kernel
theorem dL_areAll_350 : decode cL_areAll 350 = .ok (.bipush 10, 2) := by decide +kernel
theorem dL_areAll_352 : decode cL_areAll 352 = .ok (.ishr, 1) := by decide +kernel
theorem dL_areAll_353 : decode cL_areAll 353 = .ok (.bipush 15, 2) := by decide +kernel
theorem dL_areAll_355 : decode cL_areAll 355 = .ok (.iand, 1) := by decide +kernel
theorem dL_areAll_356 : decode cL_areAll 356 = .ok (.iload 6, 2) := by decide +kernel
theorem dL_areAll_358 : decode cL_areAll 358 = .ok (.if_icmp .ne 118, 3) := by decide +kernel
theorem dL_areAll_361 : decode cL_areAll 361 = .ok (.bipush 100, 2) := by decide +kernel
theorem dL_areAll_363 : decode cL_areAll 363 = .ok (.iload 10, 2) := by decide +kernel
theorem dL_areAll_365 : decode cL_areAll 365 = .ok (.bipush 20, 2) := by decide +kernel
theorem dL_areAll_367 : decode cL_areAll 367 = .ok (.idiv, 1) := by decide +kernel
theorem dL_areAll_368 : decode cL_areAll 368 = .ok (.imul, 1) := by decide +kernel
theorem dL_areAll_369 : decode cL_areAll 369 = .ok (.iload 10, 2) := by decide +kernel
theorem dL_areAll_371 : decode cL_areAll 371 = .ok (.bipush 20, 2) := by decide +kernel
theorem dL_areAll_373 : decode cL_areAll 373 = .ok (.irem, 1) := by decide +kernel
theorem dL_areAll_374 : decode cL_areAll 374 = .ok (.iadd, 1) := by decide +kernel
theorem dL_areAll_375 : decode cL_areAll 375 = .ok (.istore 11, 2) := by decide +kernel
theorem dL_areAll_377 : decode cL_areAll 377 = .ok (.iinc 8 1, 3) := by decide +kernel
theorem dL_areAll_380 : decode cL_areAll 380 = .ok (.iload 9, 2) := by decide +kernel
theorem dL_areAll_382 : decode cL_areAll 382 = .ok (.ifCond .ne 10, 3) := by decide +kernel
theorem dL_areAll_385 : decode cL_areAll 385 = .ok (.iload 11, 2) := by decide +kernel
theorem dL_areAll_387 : decode cL_areAll 387 = .ok (.iload 7, 2) := by decide +kernel
theorem dL_areAll_389 : decode cL_areAll 389 = .ok (.if_icmp .ne 7, 3) := by decide +kernel
theorem dL_areAll_392 : decode cL_areAll 392 = .ok (.iconst 1, 1) := by decide +kernel
theorem dL_areAll_393 : decode cL_areAll 393 = .ok (.goto 4, 3) := by decide +kernel
theorem dL_areAll_396 : decode cL_areAll 396 = .ok (.iconst 0, 1) := by decide +kernel
theorem dL_areAll_397 : decode cL_areAll 397 = .ok (.istore 9, 2) := by decide +kernel
theorem dL_areAll_399 : decode cL_areAll 399 = .ok (.iload 7, 2) := by decide +kernel
theorem dL_areAll_401 : decode cL_areAll 401 = .ok (.ifCond .lt 72, 3) := by decide +kernel
theorem dL_areAll_404 : decode cL_areAll 404 = .ok (.aload_n 2, 1) := by decide +kernel
theorem dL_areAll_405 : decode cL_areAll 405 = .ok (.iload 10, 2) := by decide +kernel
theorem dL_areAll_407 : decode cL_areAll 407 = .ok (.iaload, 1) := by decide +kernel
theorem dL_areAll_408 : decode cL_areAll 408 = .ok (.invokestatic 83, 3) := by decide +kernel
theorem dL_areAll_411 : decode cL_areAll 411 = .ok (.aload_n 2, 1) := by decide +kernel
theorem dL_areAll_412 : decode cL_areAll 412 = .ok (.iload 7, 2) := by decide +kernel
theorem dL_areAll_414 : decode cL_areAll 414 = .ok (.bipush 100, 2) := by decide +kernel
theorem dL_areAll_416 : decode cL_areAll 416 = .ok (.idiv, 1) := by decide +kernel
theorem dL_areAll_417 : decode cL_areAll 417 = .ok (.bipush 20, 2) := by decide +kernel
theorem dL_areAll_419 : decode cL_areAll 419 = .ok (.imul, 1) := by decide +kernel
theorem dL_areAll_420 : decode cL_areAll 420 = .ok (.iload 7, 2) := by decide +kernel
theorem dL_areAll_422 : decode cL_areAll 422 = .ok (.bipush 100, 2) := by decide +kernel
theorem dL_areAll_424 : decode cL_areAll 424 = .ok (.irem, 1) := by decide +kernel
theorem dL_areAll_425 : decode cL_areAll 425 = .ok (.iadd, 1) := by decide +kernel
theorem dL_areAll_426 : decode cL_areAll 426 = .ok (.iaload, 1) := by decide +kernel
theorem dL_areAll_427 : decode cL_areAll 427 = .ok (.invokestatic 83, 3) := by decide +kernel
theorem dL_areAll_430 : decode cL_areAll 430 = .ok (.if_icmp .lt 39, 3) := by decide +kernel
theorem dL_areAll_433 : decode cL_areAll 433 = .ok (.aload_n 2, 1) := by decide +kernel
theorem dL_areAll_434 : decode cL_areAll 434 = .ok (.iload 10, 2) := by decide +kernel
theorem dL_areAll_436 : decode cL_areAll 436 = .ok (.iaload, 1) := by decide +kernel
theorem dL_areAll_437 : decode cL_areAll 437 = .ok (.invokestatic 83, 3) := by decide +kernel
theorem dL_areAll_440 : decode cL_areAll 440 = .ok (.aload_n 2, 1) := by decide +kernel
theorem dL_areAll_441 : decode cL_areAll 441 = .ok (.iload 7, 2) := by decide +kernel
theorem dL_areAll_443 : decode cL_areAll 443 = .ok (.bipush 100, 2) := by decide +kernel
theorem dL_areAll_445 : decode cL_areAll 445 = .ok (.idiv, 1) := by decide +kernel
theorem dL_areAll_446 : decode cL_areAll 446 = .ok (.bipush 20, 2) := by decide +kernel
theorem dL_areAll_448 : decode cL_areAll 448 = .ok (.imul, 1) := by decide +kernel
theorem dL_areAll_449 : decode cL_areAll 449 = .ok (.iload 7, 2) := by decide +kernel
theorem dL_areAll_451 : decode cL_areAll 451 = .ok (.bipush 100, 2) := by decide +kernel
theorem dL_areAll_453 : decode cL_areAll 453 = .ok (.irem, 1) := by decide +kernel
theorem dL_areAll_454 : decode cL_areAll 454 = .ok (.iadd, 1) := by decide +kernel
theorem dL_areAll_455 : decode cL_areAll 455 = .ok (.iaload, 1) := by decide +kernel
theorem dL_areAll_456 : decode cL_areAll 456 = .ok (.invokestatic 83, 3) := by decide +kernel
theorem dL_areAll_459 : decode cL_areAll 459 = .ok (.if_icmp .ne 14, 3) := by decide +kernel
theorem dL_areAll_462 : decode cL_areAll 462 = .ok (.iload 7, 2) := by decide +kernel
theorem dL_areAll_464 : decode cL_areAll 464 = .ok (.iload 11, 2) := by decide +kernel
theorem dL_areAll_466 : decode cL_areAll 466 = .ok (.if_icmp .gt 7, 3) := by decide +kernel
theorem dL_areAll_469 : decode cL_areAll 469 = .ok (.iconst 1, 1) := by decide +kernel
theorem dL_areAll_470 : decode cL_areAll 470 = .ok (.goto 4, 3) := by decide +kernel
theorem dL_areAll_473 : decode cL_areAll 473 = .ok (.iconst 0, 1) := by decide +kernel
theorem dL_areAll_474 : decode cL_areAll 474 = .ok (.istore 4, 2) := by decide +kernel
theorem dL_areAll_476 : decode cL_areAll 476 = .ok (.iinc 10 1, 3) := by decide +kernel
theorem dL_areAll_479 : decode cL_areAll 479 = .ok (.goto (-152), 3) := by decide +kernel
theorem dL_areAll_482 : decode cL_areAll 482 = .ok (.iload 5, 2) := by decide +kernel
theorem dL_areAll_484 : decode cL_areAll 484 = .ok (.iload 8, 2) := by decide +kernel
theorem dL_areAll_486 : decode cL_areAll 486 = .ok (.iadd, 1) := by decide +kernel
theorem dL_areAll_487 : decode cL_areAll 487 = .ok (.istore 5, 2) := by decide +kernel
theorem dL_areAll_489 : decode cL_areAll 489 = .ok (.iload 4, 2) := by decide +kernel
theorem dL_areAll_491 : decode cL_areAll 491 = .ok (.ifCond .eq 46, 3) := by decide +kernel
theorem dL_areAll_494 : decode cL_areAll 494 = .ok (.iload 9, 2) := by decide +kernel
theorem dL_areAll_496 : decode cL_areAll 496 = .ok (.ifCond .eq 41, 3) := by decide +kernel
theorem dL_areAll_499 : decode cL_areAll 499 = .ok (.aload_n 0, 1) := by decide +kernel
theorem dL_areAll_500 : decode cL_areAll 500 = .ok (.iload 6, 2) := by decide +kernel
theorem dL_areAll_502 : decode cL_areAll 502 = .ok (.invokevirtual 61, 3) := by decide +kernel
theorem dL_areAll_505 : decode cL_areAll 505 = .ok (.iload 8, 2) := by decide +kernel
theorem dL_areAll_507 : decode cL_areAll 507 = .ok (.if_icmp .ne 30, 3) := by decide +kernel
theorem dL_areAll_510 : decode cL_areAll 510 = .ok (.iload 7, 2) := by decide +kernel
theorem dL_areAll_512 : decode cL_areAll 512 = .ok (.ifCond .ge 7, 3) := by decide +kernel
theorem dL_areAll_515 : decode cL_areAll 515 = .ok (.iconst 1, 1) := by decide +kernel
theorem dL_areAll_516 : decode cL_areAll 516 = .ok (.goto 4, 3) := by decide +kernel
theorem dL_areAll_519 : decode cL_areAll 519 = .ok (.iconst 0, 1) := by decide +kernel
theorem dL_areAll_520 : decode cL_areAll 520 = .ok (.iload 8, 2) := by decide +kernel
theorem dL_areAll_522 : decode cL_areAll 522 = .ok (.ifCond .ne 7, 3) := by decide +kernel
theorem dL_areAll_525 : decode cL_areAll 525 = .ok (.iconst 1, 1) := by decide +kernel
theorem dL_areAll_526 : decode cL_areAll 526 = .ok (.goto 4, 3) := by decide +kernel
theorem dL_areAll_529 : decode cL_areAll 529 = .ok (.iconst 0, 1) := by decide +kernel
theorem dL_areAll_530 : decode cL_areAll 530 = .ok (.if_icmp .ne 7, 3) := by decide +kernel
theorem dL_areAll_533 : decode cL_areAll 533 = .ok (.iconst 1, 1) := by decide +kernel
theorem dL_areAll_534 : decode cL_areAll 534 = .ok (.goto 4, 3) := by decide +kernel
theorem dL_areAll_537 : decode cL_areAll 537 = .ok (.iconst 0, 1) := by decide +kernel
theorem dL_areAll_538 : decode cL_areAll 538 = .ok (.istore 4, 2) := by decide +kernel
theorem dL_areAll_540 : decode cL_areAll 540 = .ok (.iinc 6 1, 3) := by decide +kernel
theorem dL_areAll_543 : decode cL_areAll 543 = .ok (.goto (-255), 3) := by decide +kernel
theorem dL_areAll_546 : decode cL_areAll 546 = .ok (.iload 4, 2) := by decide +kernel
theorem dL_areAll_548 : decode cL_areAll 548 = .ok (.ifCond .eq 37, 3) := by decide +kernel
theorem dL_areAll_551 : decode cL_areAll 551 = .ok (.iload 5, 2) := by decide +kernel
theorem dL_areAll_553 : decode cL_areAll 553 = .ok (.aload_n 0, 1) := by decide +kernel
theorem dL_areAll_554 : decode cL_areAll 554 = .ok (.iconst 0, 1) := by decide +kernel
theorem dL_areAll_555 : decode cL_areAll 555 = .ok (.invokevirtual 55, 3) := by decide +kernel
theorem dL_areAll_558 : decode cL_areAll 558 = .ok (.aload_n 0, 1) := by decide +kernel
theorem dL_areAll_559 : decode cL_areAll 559 = .ok (.iconst 1, 1) := by decide +kernel
theorem dL_areAll_560 : decode cL_areAll 560 = .ok (.invokevirtual 55, 3) := by decide +kernel
theorem dL_areAll_563 : decode cL_areAll 563 = .ok (.iadd, 1) := by decide +kernel
theorem dL_areAll_564 : decode cL_areAll 564 = .ok (.aload_n 0, 1) := by decide +kernel
theorem dL_areAll_565 : decode cL_areAll 565 = .ok (.iconst 2, 1) := by decide +kernel
theorem dL_areAll_566 : decode cL_areAll 566 = .ok (.invokevirtual 55, 3) := by decide +kernel
theorem dL_areAll_569 : decode cL_areAll 569 = .ok (.iadd, 1) := by decide +kernel
theorem dL_areAll_570 : decode cL_areAll 570 = .ok (.if_icmp .ne 15, 3) := by decide +kernel
theorem dL_areAll_573 : decode cL_areAll 573 = .ok (.aload_n 0, 1) := by decide +kernel
theorem dL_areAll_574 : decode cL_areAll 574 = .ok (.iconst 3, 1) := by decide +kernel
theorem dL_areAll_575 : decode cL_areAll 575 = .ok (.invokevirtual 27, 3) := by decide +kernel
theorem dL_areAll_578 : decode cL_areAll 578 = .ok (.ifCond .ne 7, 3) := by decide +kernel
theorem dL_areAll_581 : decode cL_areAll 581 = .ok (.iconst 1, 1) := by decide +kernel
theorem dL_areAll_582 : decode cL_areAll 582 = .ok (.goto 4, 3) := by decide +kernel
theorem dL_areAll_585 : decode cL_areAll 585 = .ok (.iconst 0, 1) := by decide +kernel
theorem dL_areAll_586 : decode cL_areAll 586 = .ok (.ireturn, 1) := by decide +kernel
set_option maxRecDepth 20000 in
theorem ggL_isRefused_L_all : GoodIn wsL_isRefused wsL_all := goodIn_ca (goodIn_r _ [4, 5, 6, 7, 8, 9, 10, 11, 12, 13, 14, 15, 16, 17, 18, 19, 20, 21, 22, 23, 24, 25, 26, 27, 28, 29, 30, 31, 32, 33, 34, 35, 36, 37, 38, 39, 40, 41, 42, 43, 44, 45, 46, 47, 48, 49, 50, 51, 52, 53, 54, 55, 56, 57, 58, 59, 60, 61, 62, 63, 64, 65, 66, 67, 68, 69, 70, 71, 72, 73, 74, 75, 230, 231, 232, 233, 234, 235, 236, 237, 238, 239, 240, 241, 242, 243, 244, 245, 246, 247, 248, 249, 250, 251] (by decide +kernel) (by decide +kernel)) (goodIn_sub (fun _ h => List.mem_cons_of_mem _ (List.mem_append_left _ (List.mem_append_right _ h))) (by decide +kernel))
set_option maxRecDepth 20000 in
theorem gL_isRefused_L_all : GoodIn wsL_isRefused (va_wsS RL 88 yL_all wsL_all) := goodIn_app (goodIn_of _ (by decide +kernel)) ggL_isRefused_L_all
set_option maxRecDepth 20000 in
theorem ggL_isRefused_L_far : GoodIn wsL_isRefused wsL_far := goodIn_ca (goodIn_ca (goodIn_r _ [78, 79, 80, 81, 82, 83, 14, 84, 21, 85, 86, 16, 23, 24, 25, 26, 27, 28, 29, 87, 88, 89, 90, 91, 92, 43, 93, 94, 95, 45, 96, 97, 98, 99, 100, 101, 102, 103, 104, 105, 106, 107, 108, 109, 110, 111, 112, 113, 114, 115, 33, 116, 35, 63, 64, 65, 117, 118, 119, 120, 121, 122, 22, 123, 124, 125, 126, 127, 128, 129, 130, 131, 132, 133, 134, 135, 136, 17, 18, 19, 20, 30, 31, 32, 34, 36, 37, 38, 39, 40, 41, 42, 44, 232, 233, 234, 235, 236, 237, 238, 239, 240, 241, 242, 243, 244, 245, 246, 247, 230, 231, 248, 249, 250, 251] (by decide +kernel) (by decide +kernel)) (goodIn_sub (fun _ h => List.mem_cons_of_mem _ (List.mem_append_left _ (List.mem_append_right _ h))) (by decide +kernel))) (goodIn_sub (fun _ h => List.mem_cons_of_mem _ (List.mem_append_right _ h)) (by decide +kernel))
set_option maxRecDepth 20000 in
theorem gL_isRefused_L_far : GoodIn wsL_isRefused (va_wsS RL 92 yL_far wsL_far) := goodIn_app (goodIn_of _ (by decide +kernel)) ggL_isRefused_L_far
set_option maxRecDepth 20000 in
theorem ggL_isRefused_L_near : GoodIn wsL_isRefused wsL_near := goodIn_ca (goodIn_ca (goodIn_r _ [139, 79, 80, 140, 141, 142, 14, 143, 16, 23, 24, 25, 26, 27, 28, 29, 144, 145, 146, 147, 148, 149, 150, 151, 152, 153, 154, 155, 156, 157, 158, 159, 160, 161, 162, 163, 164, 121, 122, 75, 165, 166, 167, 168, 169, 170, 171, 172, 173, 174, 175, 176, 177, 178, 43, 179, 180, 181, 182, 183, 107, 184, 185, 45, 128, 186, 187, 188, 189, 190, 191, 192, 193, 194, 195, 196, 197, 114, 115, 33, 116, 35, 63, 64, 65, 198, 130, 131, 132, 199, 200, 201, 202, 203, 109, 110, 111, 112, 204, 205, 206, 207, 71, 72, 73, 74, 66, 67, 68, 69, 70, 208, 209, 210, 211, 50, 123, 212, 100, 101, 102, 87, 88, 89, 46, 47, 48, 49, 30, 31, 32, 34, 51, 52, 53, 54, 21, 22, 55, 56, 57, 58, 59, 60, 61, 62, 213, 214, 215, 216, 217, 218, 219, 220, 221, 222, 223, 224, 225, 226, 227, 228, 229, 230, 231, 232, 233, 234, 235, 236, 237, 238, 239, 240, 241, 242, 243, 244, 245, 246, 247, 248, 249, 250, 251] (by decide +kernel) (by decide +kernel)) (goodIn_sub (fun _ h => List.mem_cons_of_mem _ (List.mem_append_left _ (List.mem_append_right _ h))) (by decide +kernel))) (goodIn_sub (fun _ h => List.mem_cons_of_mem _ (List.mem_append_right _ h)) (by decide +kernel))
set_option maxRecDepth 20000 in
theorem gL_isRefused_L_near : GoodIn wsL_isRefused (va_wsS RL 95 yL_near wsL_near) := goodIn_app (goodIn_of _ (by decide +kernel)) ggL_isRefused_L_near
set_option maxRecDepth 20000 in
theorem ggL_isRefused_X3_today : GoodIn wsL_isRefused wsX3_today := goodIn_r _ [15, 16, 230, 231] (by decide +kernel) (by decide +kernel)
set_option maxRecDepth 20000 in
theorem gL_isRefused_X3_today : GoodIn wsL_isRefused (wsV RL 67 RX3 yX3_today wsX3_today) := goodIn_app (goodIn_of _ (by decide +kernel)) ggL_isRefused_X3_today
theorem dL_isRefused_0 : decode cL_isRefused 0 = .ok (.iload_n 3, 1) := by decide +kernel
theorem dL_isRefused_1 : decode cL_isRefused 1 = .ok (.iconst 2, 1) := by decide +kernel
theorem dL_isRefused_2 : decode cL_isRefused 2 = .ok (.irem, 1) := by decide +kernel
theorem dL_isRefused_3 : decode cL_isRefused 3 = .ok (.ifCond .ne 7, 3) := by decide +kernel
theorem dL_isRefused_6 : decode cL_isRefused 6 = .ok (.iconst 1, 1) := by decide +kernel
theorem dL_isRefused_7 : decode cL_isRefused 7 = .ok (.goto 4, 3) := by decide +kernel
theorem dL_isRefused_10 : decode cL_isRefused 10 = .ok (.iconst 0, 1) := by decide +kernel
theorem dL_isRefused_11 : decode cL_isRefused 11 = .ok (.istore 4, 2) := by decide +kernel
theorem dL_isRefused_13 : decode cL_isRefused 13 = .ok (.iload 4, 2) := by decide +kernel
theorem dL_isRefused_15 : decode cL_isRefused 15 = .ok (.ifCond .eq 12, 3) := by decide +kernel
theorem dL_isRefused_18 : decode cL_isRefused 18 = .ok (.iconst (-1), 1) := by decide +kernel
theorem dL_isRefused_19 : decode cL_isRefused 19 = .ok (.iload_n 3, 1) := by decide +kernel
theorem dL_isRefused_20 : decode cL_isRefused 20 = .ok (.bipush 30, 2) := by decide +kernel
theorem dL_isRefused_22 : decode cL_isRefused 22 = .ok (.irem, 1) := by decide +kernel
theorem dL_isRefused_23 : decode cL_isRefused 23 = .ok (.isub, 1) := by decide +kernel
theorem dL_isRefused_24 : decode cL_isRefused 24 = .ok (.goto 9, 3) := by decide +kernel
theorem dL_isRefused_27 : decode cL_isRefused 27 = .ok (.iconst 4, 1) := by decide +kernel
theorem dL_isRefused_28 : decode cL_isRefused 28 = .ok (.iload_n 3, 1) := by decide +kernel
theorem dL_isRefused_29 : decode cL_isRefused 29 = .ok (.bipush 30, 2) := by decide +kernel
theorem dL_isRefused_31 : decode cL_isRefused 31 = .ok (.irem, 1) := by decide +kernel
theorem dL_isRefused_32 : decode cL_isRefused 32 = .ok (.iadd, 1) := by decide +kernel
theorem dL_isRefused_33 : decode cL_isRefused 33 = .ok (.istore 5, 2) := by decide +kernel
theorem dL_isRefused_35 : decode cL_isRefused 35 = .ok (.iload 4, 2) := by decide +kernel
theorem dL_isRefused_37 : decode cL_isRefused 37 = .ok (.ifCond .eq 12, 3) := by decide +kernel
theorem dL_isRefused_40 : decode cL_isRefused 40 = .ok (.iconst (-1), 1) := by decide +kernel
theorem dL_isRefused_41 : decode cL_isRefused 41 = .ok (.iload_n 3, 1) := by decide +kernel
theorem dL_isRefused_42 : decode cL_isRefused 42 = .ok (.bipush 30, 2) := by decide +kernel
theorem dL_isRefused_44 : decode cL_isRefused 44 = .ok (.irem, 1) := by decide +kernel
theorem dL_isRefused_45 : decode cL_isRefused 45 = .ok (.isub, 1) := by decide +kernel
theorem dL_isRefused_46 : decode cL_isRefused 46 = .ok (.goto 10, 3) := by decide +kernel
theorem dL_isRefused_49 : decode cL_isRefused 49 = .ok (.bipush 20, 2) := by decide +kernel
theorem dL_isRefused_51 : decode cL_isRefused 51 = .ok (.iload_n 3, 1) := by decide +kernel
theorem dL_isRefused_52 : decode cL_isRefused 52 = .ok (.bipush 30, 2) := by decide +kernel
theorem dL_isRefused_54 : decode cL_isRefused 54 = .ok (.irem, 1) := by decide +kernel
theorem dL_isRefused_55 : decode cL_isRefused 55 = .ok (.iadd, 1) := by decide +kernel
theorem dL_isRefused_56 : decode cL_isRefused 56 = .ok (.istore 6, 2) := by decide +kernel
theorem dL_isRefused_58 : decode cL_isRefused 58 = .ok (.iload_n 3, 1) := by decide +kernel
theorem dL_isRefused_59 : decode cL_isRefused 59 = .ok (.iconst 2, 1) := by decide +kernel
theorem dL_isRefused_60 : decode cL_isRefused 60 = .ok (.idiv, 1) := by decide +kernel
theorem dL_isRefused_61 : decode cL_isRefused 61 = .ok (.iconst 3, 1) := by decide +kernel
theorem dL_isRefused_62 : decode cL_isRefused 62 = .ok (.irem, 1) := by decide +kernel
theorem dL_isRefused_63 : decode cL_isRefused 63 = .ok (.istore 7, 2) := by decide +kernel
theorem dL_isRefused_65 : decode cL_isRefused 65 = .ok (.aload_n 0, 1) := by decide +kernel
theorem dL_isRefused_66 : decode cL_isRefused 66 = .ok (.invokestatic 88, 3) := by decide +kernel
theorem dL_isRefused_69 : decode cL_isRefused 69 = .ok (.lstore 8, 2) := by decide +kernel
theorem dL_isRefused_71 : decode cL_isRefused 71 = .ok (.aload_n 0, 1) := by decide +kernel
theorem dL_isRefused_72 : decode cL_isRefused 72 = .ok (.iconst 0, 1) := by decide +kernel
theorem dL_isRefused_73 : decode cL_isRefused 73 = .ok (.iload 5, 2) := by decide +kernel
theorem dL_isRefused_75 : decode cL_isRefused 75 = .ok (.iconst 1, 1) := by decide +kernel
theorem dL_isRefused_76 : decode cL_isRefused 76 = .ok (.iconst 0, 1) := by decide +kernel
theorem dL_isRefused_77 : decode cL_isRefused 77 = .ok (.iconst 0, 1) := by decide +kernel
theorem dL_isRefused_78 : decode cL_isRefused 78 = .ok (.invokestatic 92, 3) := by decide +kernel
theorem dL_isRefused_81 : decode cL_isRefused 81 = .ok (.sipush (-992), 3) := by decide +kernel
theorem dL_isRefused_84 : decode cL_isRefused 84 = .ok (.if_icmp .ne 285, 3) := by decide +kernel
theorem dL_isRefused_87 : decode cL_isRefused 87 = .ok (.aload_n 0, 1) := by decide +kernel
theorem dL_isRefused_88 : decode cL_isRefused 88 = .ok (.iconst 0, 1) := by decide +kernel
theorem dL_isRefused_89 : decode cL_isRefused 89 = .ok (.iload 7, 2) := by decide +kernel
theorem dL_isRefused_91 : decode cL_isRefused 91 = .ok (.iload 4, 2) := by decide +kernel
theorem dL_isRefused_93 : decode cL_isRefused 93 = .ok (.ifCond .eq 7, 3) := by decide +kernel
theorem dL_isRefused_96 : decode cL_isRefused 96 = .ok (.iconst 0, 1) := by decide +kernel
theorem dL_isRefused_97 : decode cL_isRefused 97 = .ok (.goto 5, 3) := by decide +kernel
theorem dL_isRefused_100 : decode cL_isRefused 100 = .ok (.bipush 31, 2) := by decide +kernel
theorem dL_isRefused_102 : decode cL_isRefused 102 = .ok (.iconst 0, 1) := by decide +kernel
theorem dL_isRefused_103 : decode cL_isRefused 103 = .ok (.iconst 0, 1) := by decide +kernel
theorem dL_isRefused_104 : decode cL_isRefused 104 = .ok (.invokestatic 92, 3) := by decide +kernel
theorem dL_isRefused_107 : decode cL_isRefused 107 = .ok (.sipush (-992), 3) := by decide +kernel
theorem dL_isRefused_110 : decode cL_isRefused 110 = .ok (.if_icmp .ne 259, 3) := by decide +kernel
theorem dL_isRefused_113 : decode cL_isRefused 113 = .ok (.aload_n 0, 1) := by decide +kernel
theorem dL_isRefused_114 : decode cL_isRefused 114 = .ok (.iconst 0, 1) := by decide +kernel
theorem dL_isRefused_115 : decode cL_isRefused 115 = .ok (.iload 7, 2) := by decide +kernel
theorem dL_isRefused_117 : decode cL_isRefused 117 = .ok (.iconst 1, 1) := by decide +kernel
theorem dL_isRefused_118 : decode cL_isRefused 118 = .ok (.iload 4, 2) := by decide +kernel
theorem dL_isRefused_120 : decode cL_isRefused 120 = .ok (.ifCond .eq 7, 3) := by decide +kernel
theorem dL_isRefused_123 : decode cL_isRefused 123 = .ok (.iconst (-1), 1) := by decide +kernel
theorem dL_isRefused_124 : decode cL_isRefused 124 = .ok (.goto 4, 3) := by decide +kernel
theorem dL_isRefused_127 : decode cL_isRefused 127 = .ok (.iconst 3, 1) := by decide +kernel
theorem dL_isRefused_128 : decode cL_isRefused 128 = .ok (.iconst 0, 1) := by decide +kernel
theorem dL_isRefused_129 : decode cL_isRefused 129 = .ok (.invokestatic 92, 3) := by decide +kernel
theorem dL_isRefused_132 : decode cL_isRefused 132 = .ok (.sipush (-992), 3) := by decide +kernel
theorem dL_isRefused_135 : decode cL_isRefused 135 = .ok (.if_icmp .ne 234, 3) := by decide +kernel
theorem dL_isRefused_138 : decode cL_isRefused 138 = .ok (.aload_n 0, 1) := by decide +kernel
theorem dL_isRefused_139 : decode cL_isRefused 139 = .ok (.iconst 1, 1) := by decide +kernel
theorem dL_isRefused_140 : decode cL_isRefused 140 = .ok (.iload 5, 2) := by decide +kernel
theorem dL_isRefused_142 : decode cL_isRefused 142 = .ok (.iconst 0, 1) := by decide +kernel
theorem dL_isRefused_143 : decode cL_isRefused 143 = .ok (.iconst 0, 1) := by decide +kernel
theorem dL_isRefused_144 : decode cL_isRefused 144 = .ok (.iconst 0, 1) := by decide +kernel
theorem dL_isRefused_145 : decode cL_isRefused 145 = .ok (.invokestatic 92, 3) := by decide +kernel
theorem dL_isRefused_148 : decode cL_isRefused 148 = .ok (.sipush (-992), 3) := by decide +kernel
theorem dL_isRefused_151 : decode cL_isRefused 151 = .ok (.if_icmp .ne 218, 3) := by decide +kernel
theorem dL_isRefused_154 : decode cL_isRefused 154 = .ok (.aload_n 0, 1) := by decide +kernel
theorem dL_isRefused_155 : decode cL_isRefused 155 = .ok (.iconst 1, 1) := by decide +kernel
theorem dL_isRefused_156 : decode cL_isRefused 156 = .ok (.iload 7, 2) := by decide +kernel
theorem dL_isRefused_158 : decode cL_isRefused 158 = .ok (.iload 6, 2) := by decide +kernel
theorem dL_isRefused_160 : decode cL_isRefused 160 = .ok (.iconst 0, 1) := by decide +kernel
theorem dL_isRefused_161 : decode cL_isRefused 161 = .ok (.iconst 0, 1) := by decide +kernel
theorem dL_isRefused_162 : decode cL_isRefused 162 = .ok (.invokestatic 92, 3) := by decide +kernel
theorem dL_isRefused_165 : decode cL_isRefused 165 = .ok (.sipush (-992), 3) := by decide +kernel
theorem dL_isRefused_168 : decode cL_isRefused 168 = .ok (.if_icmp .ne 201, 3) := by decide +kernel
theorem dL_isRefused_171 : decode cL_isRefused 171 = .ok (.aload_n 0, 1) := by decide +kernel
theorem dL_isRefused_172 : decode cL_isRefused 172 = .ok (.iconst 1, 1) := by decide +kernel
theorem dL_isRefused_173 : decode cL_isRefused 173 = .ok (.iload 7, 2) := by decide +kernel
theorem dL_isRefused_175 : decode cL_isRefused 175 = .ok (.iconst 0, 1) := by decide +kernel
theorem dL_isRefused_176 : decode cL_isRefused 176 = .ok (.iload 4, 2) := by decide +kernel
theorem dL_isRefused_178 : decode cL_isRefused 178 = .ok (.ifCond .eq 7, 3) := by decide +kernel
theorem dL_isRefused_181 : decode cL_isRefused 181 = .ok (.iconst (-1), 1) := by decide +kernel
theorem dL_isRefused_182 : decode cL_isRefused 182 = .ok (.goto 5, 3) := by decide +kernel
theorem dL_isRefused_185 : decode cL_isRefused 185 = .ok (.bipush 10, 2) := by decide +kernel
theorem dL_isRefused_187 : decode cL_isRefused 187 = .ok (.iconst 0, 1) := by decide +kernel
theorem dL_isRefused_188 : decode cL_isRefused 188 = .ok (.invokestatic 92, 3) := by decide +kernel
theorem dL_isRefused_191 : decode cL_isRefused 191 = .ok (.sipush (-992), 3) := by decide +kernel
theorem dL_isRefused_194 : decode cL_isRefused 194 = .ok (.if_icmp .ne 175, 3) := by decide +kernel
theorem dL_isRefused_197 : decode cL_isRefused 197 = .ok (.aload_n 0, 1) := by decide +kernel
theorem dL_isRefused_198 : decode cL_isRefused 198 = .ok (.iconst 1, 1) := by decide +kernel
theorem dL_isRefused_199 : decode cL_isRefused 199 = .ok (.iload 7, 2) := by decide +kernel
theorem dL_isRefused_201 : decode cL_isRefused 201 = .ok (.iconst 0, 1) := by decide +kernel
theorem dL_isRefused_202 : decode cL_isRefused 202 = .ok (.iconst 0, 1) := by decide +kernel
theorem dL_isRefused_203 : decode cL_isRefused 203 = .ok (.iload 4, 2) := by decide +kernel
theorem dL_isRefused_205 : decode cL_isRefused 205 = .ok (.ifCond .eq 7, 3) := by decide +kernel
theorem dL_isRefused_208 : decode cL_isRefused 208 = .ok (.iconst (-1), 1) := by decide +kernel
theorem dL_isRefused_209 : decode cL_isRefused 209 = .ok (.goto 6, 3) := by decide +kernel
theorem dL_isRefused_212 : decode cL_isRefused 212 = .ok (.sipush 1001, 3) := by decide +kernel
theorem dL_isRefused_215 : decode cL_isRefused 215 = .ok (.invokestatic 92, 3) := by decide +kernel
theorem dL_isRefused_218 : decode cL_isRefused 218 = .ok (.sipush (-992), 3) := by decide +kernel
theorem dL_isRefused_221 : decode cL_isRefused 221 = .ok (.if_icmp .ne 148, 3) := by decide +kernel
theorem dL_isRefused_224 : decode cL_isRefused 224 = .ok (.aload_n 0, 1) := by decide +kernel
theorem dL_isRefused_225 : decode cL_isRefused 225 = .ok (.iconst 2, 1) := by decide +kernel
theorem dL_isRefused_226 : decode cL_isRefused 226 = .ok (.iload 5, 2) := by decide +kernel
theorem dL_isRefused_228 : decode cL_isRefused 228 = .ok (.iconst 0, 1) := by decide +kernel
theorem dL_isRefused_229 : decode cL_isRefused 229 = .ok (.iconst 0, 1) := by decide +kernel
theorem dL_isRefused_230 : decode cL_isRefused 230 = .ok (.iconst 0, 1) := by decide +kernel
theorem dL_isRefused_231 : decode cL_isRefused 231 = .ok (.invokestatic 92, 3) := by decide +kernel
theorem dL_isRefused_234 : decode cL_isRefused 234 = .ok (.sipush (-992), 3) := by decide +kernel
theorem dL_isRefused_237 : decode cL_isRefused 237 = .ok (.if_icmp .ne 132, 3) := by decide +kernel
theorem dL_isRefused_240 : decode cL_isRefused 240 = .ok (.aload_n 0, 1) := by decide +kernel
theorem dL_isRefused_241 : decode cL_isRefused 241 = .ok (.iconst 2, 1) := by decide +kernel
theorem dL_isRefused_242 : decode cL_isRefused 242 = .ok (.iload 7, 2) := by decide +kernel
theorem dL_isRefused_244 : decode cL_isRefused 244 = .ok (.iload 6, 2) := by decide +kernel
theorem dL_isRefused_246 : decode cL_isRefused 246 = .ok (.iconst 0, 1) := by decide +kernel
theorem dL_isRefused_247 : decode cL_isRefused 247 = .ok (.iconst 0, 1) := by decide +kernel
theorem dL_isRefused_248 : decode cL_isRefused 248 = .ok (.invokestatic 92, 3) := by decide +kernel
theorem dL_isRefused_251 : decode cL_isRefused 251 = .ok (.sipush (-992), 3) := by decide +kernel
theorem dL_isRefused_254 : decode cL_isRefused 254 = .ok (.if_icmp .ne 115, 3) := by decide +kernel
theorem dL_isRefused_257 : decode cL_isRefused 257 = .ok (.aload_n 0, 1) := by decide +kernel
theorem dL_isRefused_258 : decode cL_isRefused 258 = .ok (.iconst 3, 1) := by decide +kernel
theorem dL_isRefused_259 : decode cL_isRefused 259 = .ok (.iload 4, 2) := by decide +kernel
theorem dL_isRefused_261 : decode cL_isRefused 261 = .ok (.ifCond .eq 12, 3) := by decide +kernel
theorem dL_isRefused_264 : decode cL_isRefused 264 = .ok (.iconst 0, 1) := by decide +kernel
theorem dL_isRefused_265 : decode cL_isRefused 265 = .ok (.iload_n 3, 1) := by decide +kernel
theorem dL_isRefused_266 : decode cL_isRefused 266 = .ok (.bipush 30, 2) := by decide +kernel
theorem dL_isRefused_268 : decode cL_isRefused 268 = .ok (.irem, 1) := by decide +kernel
theorem dL_isRefused_269 : decode cL_isRefused 269 = .ok (.isub, 1) := by decide +kernel
theorem dL_isRefused_270 : decode cL_isRefused 270 = .ok (.goto 10, 3) := by decide +kernel
theorem dL_isRefused_273 : decode cL_isRefused 273 = .ok (.bipush 101, 2) := by decide +kernel
theorem dL_isRefused_275 : decode cL_isRefused 275 = .ok (.iload_n 3, 1) := by decide +kernel
theorem dL_isRefused_276 : decode cL_isRefused 276 = .ok (.bipush 30, 2) := by decide +kernel
theorem dL_isRefused_278 : decode cL_isRefused 278 = .ok (.irem, 1) := by decide +kernel
theorem dL_isRefused_279 : decode cL_isRefused 279 = .ok (.iadd, 1) := by decide +kernel
theorem dL_isRefused_280 : decode cL_isRefused 280 = .ok (.iconst 0, 1) := by decide +kernel
theorem dL_isRefused_281 : decode cL_isRefused 281 = .ok (.iconst 0, 1) := by decide +kernel
theorem dL_isRefused_282 : decode cL_isRefused 282 = .ok (.iconst 0, 1) := by decide +kernel
theorem dL_isRefused_283 : decode cL_isRefused 283 = .ok (.invokestatic 92, 3) := by decide +kernel
theorem dL_isRefused_286 : decode cL_isRefused 286 = .ok (.sipush (-992), 3) := by decide +kernel
theorem dL_isRefused_289 : decode cL_isRefused 289 = .ok (.if_icmp .ne 80, 3) := by decide +kernel
theorem dL_isRefused_292 : decode cL_isRefused 292 = .ok (.aload_n 0, 1) := by decide +kernel
theorem dL_isRefused_293 : decode cL_isRefused 293 = .ok (.iconst 4, 1) := by decide +kernel
theorem dL_isRefused_294 : decode cL_isRefused 294 = .ok (.iload 5, 2) := by decide +kernel
theorem dL_isRefused_296 : decode cL_isRefused 296 = .ok (.iconst 0, 1) := by decide +kernel
theorem dL_isRefused_297 : decode cL_isRefused 297 = .ok (.iconst 0, 1) := by decide +kernel
theorem dL_isRefused_298 : decode cL_isRefused 298 = .ok (.iconst 0, 1) := by decide +kernel
theorem dL_isRefused_299 : decode cL_isRefused 299 = .ok (.invokestatic 92, 3) := by decide +kernel
theorem dL_isRefused_302 : decode cL_isRefused 302 = .ok (.sipush (-992), 3) := by decide +kernel
theorem dL_isRefused_305 : decode cL_isRefused 305 = .ok (.if_icmp .ne 64, 3) := by decide +kernel
theorem dL_isRefused_308 : decode cL_isRefused 308 = .ok (.aload_n 0, 1) := by decide +kernel
theorem dL_isRefused_309 : decode cL_isRefused 309 = .ok (.iconst 5, 1) := by decide +kernel
theorem dL_isRefused_310 : decode cL_isRefused 310 = .ok (.iload 5, 2) := by decide +kernel
theorem dL_isRefused_312 : decode cL_isRefused 312 = .ok (.iconst 0, 1) := by decide +kernel
theorem dL_isRefused_313 : decode cL_isRefused 313 = .ok (.iconst 0, 1) := by decide +kernel
theorem dL_isRefused_314 : decode cL_isRefused 314 = .ok (.iconst 0, 1) := by decide +kernel
theorem dL_isRefused_315 : decode cL_isRefused 315 = .ok (.invokestatic 92, 3) := by decide +kernel
theorem dL_isRefused_318 : decode cL_isRefused 318 = .ok (.sipush (-992), 3) := by decide +kernel
theorem dL_isRefused_321 : decode cL_isRefused 321 = .ok (.if_icmp .ne 48, 3) := by decide +kernel
theorem dL_isRefused_324 : decode cL_isRefused 324 = .ok (.aload_n 0, 1) := by decide +kernel
theorem dL_isRefused_325 : decode cL_isRefused 325 = .ok (.iconst 4, 1) := by decide +kernel
theorem dL_isRefused_326 : decode cL_isRefused 326 = .ok (.iload 7, 2) := by decide +kernel
theorem dL_isRefused_328 : decode cL_isRefused 328 = .ok (.iload 6, 2) := by decide +kernel
theorem dL_isRefused_330 : decode cL_isRefused 330 = .ok (.invokestatic 95, 3) := by decide +kernel
theorem dL_isRefused_333 : decode cL_isRefused 333 = .ok (.sipush (-992), 3) := by decide +kernel
theorem dL_isRefused_336 : decode cL_isRefused 336 = .ok (.if_icmp .ne 33, 3) := by decide +kernel
theorem dL_isRefused_339 : decode cL_isRefused 339 = .ok (.aload_n 0, 1) := by decide +kernel
theorem dL_isRefused_340 : decode cL_isRefused 340 = .ok (.invokevirtual 67, 3) := by decide +kernel
theorem dL_isRefused_343 : decode cL_isRefused 343 = .ok (.sipush 4901, 3) := by decide +kernel
theorem dL_isRefused_346 : decode cL_isRefused 346 = .ok (.if_icmp .lt 19, 3) := by decide +kernel
theorem dL_isRefused_349 : decode cL_isRefused 349 = .ok (.aload_n 0, 1) := by decide +kernel
theorem dL_isRefused_350 : decode cL_isRefused 350 = .ok (.iconst 3, 1) := by decide +kernel
theorem dL_isRefused_351 : decode cL_isRefused 351 = .ok (.bipush 100, 2) := by decide +kernel
theorem dL_isRefused_353 : decode cL_isRefused 353 = .ok (.iconst 0, 1) := by decide +kernel
theorem dL_isRefused_354 : decode cL_isRefused 354 = .ok (.iconst 0, 1) := by decide +kernel
theorem dL_isRefused_355 : decode cL_isRefused 355 = .ok (.iconst 0, 1) := by decide +kernel
theorem dL_isRefused_356 : decode cL_isRefused 356 = .ok (.invokestatic 92, 3) := by decide +kernel
theorem dL_isRefused_359 : decode cL_isRefused 359 = .ok (.sipush (-993), 3) := by decide +kernel
theorem dL_isRefused_362 : decode cL_isRefused 362 = .ok (.if_icmp .ne 7, 3) := by decide +kernel
theorem dL_isRefused_365 : decode cL_isRefused 365 = .ok (.iconst 1, 1) := by decide +kernel
theorem dL_isRefused_366 : decode cL_isRefused 366 = .ok (.goto 4, 3) := by decide +kernel
theorem dL_isRefused_369 : decode cL_isRefused 369 = .ok (.iconst 0, 1) := by decide +kernel
theorem dL_isRefused_370 : decode cL_isRefused 370 = .ok (.istore 10, 2) := by decide +kernel
theorem dL_isRefused_372 : decode cL_isRefused 372 = .ok (.iconst 0, 1) := by decide +kernel
theorem dL_isRefused_373 : decode cL_isRefused 373 = .ok (.istore 11, 2) := by decide +kernel
theorem dL_isRefused_375 : decode cL_isRefused 375 = .ok (.iload 11, 2) := by decide +kernel
theorem dL_isRefused_377 : decode cL_isRefused 377 = .ok (.bipush 9, 2) := by decide +kernel
theorem dL_isRefused_379 : decode cL_isRefused 379 = .ok (.if_icmp .ge 67, 3) := by decide +kernel
theorem dL_isRefused_382 : decode cL_isRefused 382 = .ok (.iload 10, 2) := by decide +kernel
theorem dL_isRefused_384 : decode cL_isRefused 384 = .ok (.ifCond .eq 62, 3) := by decide +kernel
theorem dL_isRefused_387 : decode cL_isRefused 387 = .ok (.aload_n 0, 1) := by decide +kernel
theorem dL_isRefused_388 : decode cL_isRefused 388 = .ok (.iload 11, 2) := by decide +kernel
theorem dL_isRefused_390 : decode cL_isRefused 390 = .ok (.iload 11, 2) := by decide +kernel
theorem dL_isRefused_392 : decode cL_isRefused 392 = .ok (.bipush 6, 2) := by decide +kernel
theorem dL_isRefused_394 : decode cL_isRefused 394 = .ok (.if_icmp .le 27, 3) := by decide +kernel
theorem dL_isRefused_397 : decode cL_isRefused 397 = .ok (.iload 4, 2) := by decide +kernel
theorem dL_isRefused_399 : decode cL_isRefused 399 = .ok (.ifCond .eq 12, 3) := by decide +kernel
theorem dL_isRefused_402 : decode cL_isRefused 402 = .ok (.iconst (-1), 1) := by decide +kernel
theorem dL_isRefused_403 : decode cL_isRefused 403 = .ok (.iload_n 3, 1) := by decide +kernel
theorem dL_isRefused_404 : decode cL_isRefused 404 = .ok (.bipush 30, 2) := by decide +kernel
theorem dL_isRefused_406 : decode cL_isRefused 406 = .ok (.irem, 1) := by decide +kernel
theorem dL_isRefused_407 : decode cL_isRefused 407 = .ok (.isub, 1) := by decide +kernel
theorem dL_isRefused_408 : decode cL_isRefused 408 = .ok (.goto 15, 3) := by decide +kernel
theorem dL_isRefused_411 : decode cL_isRefused 411 = .ok (.bipush 10, 2) := by decide +kernel
theorem dL_isRefused_413 : decode cL_isRefused 413 = .ok (.iload_n 3, 1) := by decide +kernel
theorem dL_isRefused_414 : decode cL_isRefused 414 = .ok (.bipush 30, 2) := by decide +kernel
theorem dL_isRefused_416 : decode cL_isRefused 416 = .ok (.irem, 1) := by decide +kernel
theorem dL_isRefused_417 : decode cL_isRefused 417 = .ok (.iadd, 1) := by decide +kernel
theorem dL_isRefused_418 : decode cL_isRefused 418 = .ok (.goto 5, 3) := by decide +kernel
theorem dL_isRefused_421 : decode cL_isRefused 421 = .ok (.iload 5, 2) := by decide +kernel
theorem dL_isRefused_423 : decode cL_isRefused 423 = .ok (.iconst 0, 1) := by decide +kernel
theorem dL_isRefused_424 : decode cL_isRefused 424 = .ok (.invokestatic 95, 3) := by decide +kernel
theorem dL_isRefused_427 : decode cL_isRefused 427 = .ok (.sipush (-992), 3) := by decide +kernel
theorem dL_isRefused_430 : decode cL_isRefused 430 = .ok (.if_icmp .ne 7, 3) := by decide +kernel
theorem dL_isRefused_433 : decode cL_isRefused 433 = .ok (.iconst 1, 1) := by decide +kernel
theorem dL_isRefused_434 : decode cL_isRefused 434 = .ok (.goto 4, 3) := by decide +kernel
theorem dL_isRefused_437 : decode cL_isRefused 437 = .ok (.iconst 0, 1) := by decide +kernel
theorem dL_isRefused_438 : decode cL_isRefused 438 = .ok (.istore 10, 2) := by decide +kernel
theorem dL_isRefused_440 : decode cL_isRefused 440 = .ok (.iinc 11 1, 3) := by decide +kernel
theorem dL_isRefused_443 : decode cL_isRefused 443 = .ok (.goto (-68), 3) := by decide +kernel
theorem dL_isRefused_446 : decode cL_isRefused 446 = .ok (.bipush 20, 2) := by decide +kernel
theorem dL_isRefused_448 : decode cL_isRefused 448 = .ok (.iload 7, 2) := by decide +kernel
theorem dL_isRefused_450 : decode cL_isRefused 450 = .ok (.imul, 1) := by decide +kernel
theorem dL_isRefused_451 : decode cL_isRefused 451 = .ok (.istore 11, 2) := by decide +kernel
theorem dL_isRefused_453 : decode cL_isRefused 453 = .ok (.iload 11, 2) := by decide +kernel
theorem dL_isRefused_455 : decode cL_isRefused 455 = .ok (.bipush 20, 2) := by decide +kernel
theorem dL_isRefused_457 : decode cL_isRefused 457 = .ok (.iload 7, 2) := by decide +kernel
theorem dL_isRefused_459 : decode cL_isRefused 459 = .ok (.imul, 1) := by decide +kernel
theorem dL_isRefused_460 : decode cL_isRefused 460 = .ok (.bipush 20, 2) := by decide +kernel
theorem dL_isRefused_462 : decode cL_isRefused 462 = .ok (.iadd, 1) := by decide +kernel
theorem dL_isRefused_463 : decode cL_isRefused 463 = .ok (.if_icmp .ge 48, 3) := by decide +kernel
theorem dL_isRefused_466 : decode cL_isRefused 466 = .ok (.iload 10, 2) := by decide +kernel
theorem dL_isRefused_468 : decode cL_isRefused 468 = .ok (.ifCond .eq 43, 3) := by decide +kernel
theorem dL_isRefused_471 : decode cL_isRefused 471 = .ok (.aload_n 1, 1) := by decide +kernel
theorem dL_isRefused_472 : decode cL_isRefused 472 = .ok (.iload 11, 2) := by decide +kernel
theorem dL_isRefused_474 : decode cL_isRefused 474 = .ok (.iaload, 1) := by decide +kernel
theorem dL_isRefused_475 : decode cL_isRefused 475 = .ok (.ifCond .ge 23, 3) := by decide +kernel
theorem dL_isRefused_478 : decode cL_isRefused 478 = .ok (.aload_n 0, 1) := by decide +kernel
theorem dL_isRefused_479 : decode cL_isRefused 479 = .ok (.iconst 2, 1) := by decide +kernel
theorem dL_isRefused_480 : decode cL_isRefused 480 = .ok (.iload 7, 2) := by decide +kernel
theorem dL_isRefused_482 : decode cL_isRefused 482 = .ok (.iload 11, 2) := by decide +kernel
theorem dL_isRefused_484 : decode cL_isRefused 484 = .ok (.bipush 20, 2) := by decide +kernel
theorem dL_isRefused_486 : decode cL_isRefused 486 = .ok (.irem, 1) := by decide +kernel
theorem dL_isRefused_487 : decode cL_isRefused 487 = .ok (.iconst 0, 1) := by decide +kernel
theorem dL_isRefused_488 : decode cL_isRefused 488 = .ok (.iconst 0, 1) := by decide +kernel
theorem dL_isRefused_489 : decode cL_isRefused 489 = .ok (.invokestatic 92, 3) := by decide +kernel
theorem dL_isRefused_492 : decode cL_isRefused 492 = .ok (.sipush (-993), 3) := by decide +kernel
theorem dL_isRefused_495 : decode cL_isRefused 495 = .ok (.if_icmp .ne 7, 3) := by decide +kernel
theorem dL_isRefused_498 : decode cL_isRefused 498 = .ok (.iconst 1, 1) := by decide +kernel
theorem dL_isRefused_499 : decode cL_isRefused 499 = .ok (.goto 4, 3) := by decide +kernel
theorem dL_isRefused_502 : decode cL_isRefused 502 = .ok (.iconst 0, 1) := by decide +kernel
theorem dL_isRefused_503 : decode cL_isRefused 503 = .ok (.istore 10, 2) := by decide +kernel
theorem dL_isRefused_505 : decode cL_isRefused 505 = .ok (.iinc 11 1, 3) := by decide +kernel
theorem dL_isRefused_508 : decode cL_isRefused 508 = .ok (.goto (-55), 3) := by decide +kernel
theorem dL_isRefused_511 : decode cL_isRefused 511 = .ok (.iload 10, 2) := by decide +kernel
theorem dL_isRefused_513 : decode cL_isRefused 513 = .ok (.ifCond .eq 42, 3) := by decide +kernel
theorem dL_isRefused_516 : decode cL_isRefused 516 = .ok (.aload_n 2, 1) := by decide +kernel
theorem dL_isRefused_517 : decode cL_isRefused 517 = .ok (.iconst 4, 1) := by decide +kernel
theorem dL_isRefused_518 : decode cL_isRefused 518 = .ok (.iload 7, 2) := by decide +kernel
theorem dL_isRefused_520 : decode cL_isRefused 520 = .ok (.imul, 1) := by decide +kernel
theorem dL_isRefused_521 : decode cL_isRefused 521 = .ok (.iconst 2, 1) := by decide +kernel
theorem dL_isRefused_522 : decode cL_isRefused 522 = .ok (.iadd, 1) := by decide +kernel
theorem dL_isRefused_523 : decode cL_isRefused 523 = .ok (.iaload, 1) := by decide +kernel
theorem dL_isRefused_524 : decode cL_isRefused 524 = .ok (.ifCond .gt 17, 3) := by decide +kernel
theorem dL_isRefused_527 : decode cL_isRefused 527 = .ok (.aload_n 0, 1) := by decide +kernel
theorem dL_isRefused_528 : decode cL_isRefused 528 = .ok (.iconst 1, 1) := by decide +kernel
theorem dL_isRefused_529 : decode cL_isRefused 529 = .ok (.iload 7, 2) := by decide +kernel
theorem dL_isRefused_531 : decode cL_isRefused 531 = .ok (.iconst 0, 1) := by decide +kernel
theorem dL_isRefused_532 : decode cL_isRefused 532 = .ok (.invokestatic 95, 3) := by decide +kernel
theorem dL_isRefused_535 : decode cL_isRefused 535 = .ok (.sipush (-993), 3) := by decide +kernel
theorem dL_isRefused_538 : decode cL_isRefused 538 = .ok (.if_icmp .ne 17, 3) := by decide +kernel
theorem dL_isRefused_541 : decode cL_isRefused 541 = .ok (.aload_n 0, 1) := by decide +kernel
theorem dL_isRefused_542 : decode cL_isRefused 542 = .ok (.invokestatic 88, 3) := by decide +kernel
theorem dL_isRefused_545 : decode cL_isRefused 545 = .ok (.lload 8, 2) := by decide +kernel
theorem dL_isRefused_547 : decode cL_isRefused 547 = .ok (.lcmp, 1) := by decide +kernel
theorem dL_isRefused_548 : decode cL_isRefused 548 = .ok (.ifCond .ne 7, 3) := by decide +kernel
theorem dL_isRefused_551 : decode cL_isRefused 551 = .ok (.iconst 1, 1) := by decide +kernel
theorem dL_isRefused_552 : decode cL_isRefused 552 = .ok (.goto 4, 3) := by decide +kernel
theorem dL_isRefused_555 : decode cL_isRefused 555 = .ok (.iconst 0, 1) := by decide +kernel
theorem dL_isRefused_556 : decode cL_isRefused 556 = .ok (.ireturn, 1) := by decide +kernel
theorem dL_clear_0 : decode cL_clear 0 = .ok (.bipush 20, 2) := by decide +kernel
theorem dL_clear_2 : decode cL_clear 2 = .ok (.iload_n 3, 1) := by decide +kernel
theorem dL_clear_3 : decode cL_clear 3 = .ok (.imul, 1) := by decide +kernel
theorem dL_clear_4 : decode cL_clear 4 = .ok (.istore 5, 2) := by decide +kernel
theorem dL_clear_6 : decode cL_clear 6 = .ok (.iload 5, 2) := by decide +kernel
theorem dL_clear_8 : decode cL_clear 8 = .ok (.bipush 20, 2) := by decide +kernel
theorem dL_clear_10 : decode cL_clear 10 = .ok (.iload_n 3, 1) := by decide +kernel
theorem dL_clear_11 : decode cL_clear 11 = .ok (.imul, 1) := by decide +kernel
theorem dL_clear_12 : decode cL_clear 12 = .ok (.bipush 20, 2) := by decide +kernel
theorem dL_clear_14 : decode cL_clear 14 = .ok (.iadd, 1) := by decide +kernel
theorem dL_clear_15 : decode cL_clear 15 = .ok (.if_icmp .ge 75, 3) := by decide +kernel
theorem dL_clear_18 : decode cL_clear 18 = .ok (.aload_n 2, 1) := by decide +kernel
theorem dL_clear_19 : decode cL_clear 19 = .ok (.iconst 4, 1) := by decide +kernel
theorem dL_clear_20 : decode cL_clear 20 = .ok (.iload_n 3, 1) := by decide +kernel
theorem dL_clear_21 : decode cL_clear 21 = .ok (.imul, 1) := by decide +kernel
theorem dL_clear_22 : decode cL_clear 22 = .ok (.iconst 1, 1) := by decide +kernel
theorem dL_clear_23 : decode cL_clear 23 = .ok (.iadd, 1) := by decide +kernel
theorem dL_clear_24 : decode cL_clear 24 = .ok (.iaload, 1) := by decide +kernel
theorem dL_clear_25 : decode cL_clear 25 = .ok (.iconst 2, 1) := by decide +kernel
theorem dL_clear_26 : decode cL_clear 26 = .ok (.if_icmp .eq 26, 3) := by decide +kernel
theorem dL_clear_29 : decode cL_clear 29 = .ok (.aload_n 2, 1) := by decide +kernel
theorem dL_clear_30 : decode cL_clear 30 = .ok (.iconst 4, 1) := by decide +kernel
theorem dL_clear_31 : decode cL_clear 31 = .ok (.iload_n 3, 1) := by decide +kernel
theorem dL_clear_32 : decode cL_clear 32 = .ok (.imul, 1) := by decide +kernel
theorem dL_clear_33 : decode cL_clear 33 = .ok (.iconst 1, 1) := by decide +kernel
theorem dL_clear_34 : decode cL_clear 34 = .ok (.iadd, 1) := by decide +kernel
theorem dL_clear_35 : decode cL_clear 35 = .ok (.iaload, 1) := by decide +kernel
theorem dL_clear_36 : decode cL_clear 36 = .ok (.iconst 1, 1) := by decide +kernel
theorem dL_clear_37 : decode cL_clear 37 = .ok (.if_icmp .ne 19, 3) := by decide +kernel
theorem dL_clear_40 : decode cL_clear 40 = .ok (.aload_n 1, 1) := by decide +kernel
theorem dL_clear_41 : decode cL_clear 41 = .ok (.iload 5, 2) := by decide +kernel
theorem dL_clear_43 : decode cL_clear 43 = .ok (.iaload, 1) := by decide +kernel
theorem dL_clear_44 : decode cL_clear 44 = .ok (.bipush 10, 2) := by decide +kernel
theorem dL_clear_46 : decode cL_clear 46 = .ok (.iadd, 1) := by decide +kernel
theorem dL_clear_47 : decode cL_clear 47 = .ok (.iload 4, 2) := by decide +kernel
theorem dL_clear_49 : decode cL_clear 49 = .ok (.if_icmp .gt 7, 3) := by decide +kernel
theorem dL_clear_52 : decode cL_clear 52 = .ok (.iconst 1, 1) := by decide +kernel
theorem dL_clear_53 : decode cL_clear 53 = .ok (.goto 4, 3) := by decide +kernel
theorem dL_clear_56 : decode cL_clear 56 = .ok (.iconst 0, 1) := by decide +kernel
theorem dL_clear_57 : decode cL_clear 57 = .ok (.istore 6, 2) := by decide +kernel
theorem dL_clear_59 : decode cL_clear 59 = .ok (.aload_n 0, 1) := by decide +kernel
theorem dL_clear_60 : decode cL_clear 60 = .ok (.iload 5, 2) := by decide +kernel
theorem dL_clear_62 : decode cL_clear 62 = .ok (.aload_n 0, 1) := by decide +kernel
theorem dL_clear_63 : decode cL_clear 63 = .ok (.iload 5, 2) := by decide +kernel
theorem dL_clear_65 : decode cL_clear 65 = .ok (.iaload, 1) := by decide +kernel
theorem dL_clear_66 : decode cL_clear 66 = .ok (.iconst (-1), 1) := by decide +kernel
theorem dL_clear_67 : decode cL_clear 67 = .ok (.if_icmp .ge 12, 3) := by decide +kernel
theorem dL_clear_70 : decode cL_clear 70 = .ok (.iload 6, 2) := by decide +kernel
theorem dL_clear_72 : decode cL_clear 72 = .ok (.ifCond .eq 7, 3) := by decide +kernel
theorem dL_clear_75 : decode cL_clear 75 = .ok (.iconst (-1), 1) := by decide +kernel
theorem dL_clear_76 : decode cL_clear 76 = .ok (.goto 7, 3) := by decide +kernel
theorem dL_clear_79 : decode cL_clear 79 = .ok (.aload_n 0, 1) := by decide +kernel
theorem dL_clear_80 : decode cL_clear 80 = .ok (.iload 5, 2) := by decide +kernel
theorem dL_clear_82 : decode cL_clear 82 = .ok (.iaload, 1) := by decide +kernel
theorem dL_clear_83 : decode cL_clear 83 = .ok (.iastore, 1) := by decide +kernel
theorem dL_clear_84 : decode cL_clear 84 = .ok (.iinc 5 1, 3) := by decide +kernel
theorem dL_clear_87 : decode cL_clear 87 = .ok (.goto (-81), 3) := by decide +kernel
theorem dL_clear_90 : decode cL_clear 90 = .ok (.return_, 1) := by decide +kernel
set_option maxRecDepth 20000 in
theorem ggL_isPut_X3_today : GoodIn wsL_isPut wsX3_today := goodIn_r _ [5, 6, 46, 47] (by decide +kernel) (by decide +kernel)
set_option maxRecDepth 20000 in
theorem gL_isPut_X3_today : GoodIn wsL_isPut (wsV RL 67 RX3 yX3_today wsX3_today) := goodIn_app (goodIn_of _ (by decide +kernel)) ggL_isPut_X3_today
set_option maxRecDepth 20000 in
theorem ggL_isPut_X3_put : GoodIn wsL_isPut wsX3_put := goodIn_ca (goodIn_r _ [10, 11, 6, 12, 13, 14, 4, 15, 16, 17, 18, 19, 20, 21, 22, 23, 24, 25, 26, 27, 28, 29, 30, 31, 32, 33, 34, 35, 36, 37, 38, 39, 40, 41, 42, 43, 44, 45, 48, 49, 50, 51, 52, 53, 54, 55, 56, 57, 46, 47, 58, 59, 60, 61, 62, 63, 64, 65, 66, 67] (by decide +kernel) (by decide +kernel)) (goodIn_sub (fun _ h => List.mem_cons_of_mem _ (List.mem_append_right _ h)) (by decide +kernel))
set_option maxRecDepth 20000 in
theorem gL_isPut_X3_put : GoodIn wsL_isPut (wsV RL 15 RX3 yX3_put wsX3_put) := goodIn_app (goodIn_of _ (by decide +kernel)) ggL_isPut_X3_put
theorem dL_isPut_0 : decode cL_isPut 0 = .ok (.aload_n 0, 1) := by decide +kernel
theorem dL_isPut_1 : decode cL_isPut 1 = .ok (.invokevirtual 67, 3) := by decide +kernel
theorem dL_isPut_4 : decode cL_isPut 4 = .ok (.istore 7, 2) := by decide +kernel
theorem dL_isPut_6 : decode cL_isPut 6 = .ok (.aload_n 0, 1) := by decide +kernel
theorem dL_isPut_7 : decode cL_isPut 7 = .ok (.iload_n 3, 1) := by decide +kernel
theorem dL_isPut_8 : decode cL_isPut 8 = .ok (.iload 4, 2) := by decide +kernel
theorem dL_isPut_10 : decode cL_isPut 10 = .ok (.iload 5, 2) := by decide +kernel
theorem dL_isPut_12 : decode cL_isPut 12 = .ok (.iload 6, 2) := by decide +kernel
theorem dL_isPut_14 : decode cL_isPut 14 = .ok (.invokevirtual 15, 3) := by decide +kernel
theorem dL_isPut_17 : decode cL_isPut 17 = .ok (.istore 8, 2) := by decide +kernel
theorem dL_isPut_19 : decode cL_isPut 19 = .ok (.aload_n 1, 1) := by decide +kernel
theorem dL_isPut_20 : decode cL_isPut 20 = .ok (.bipush 20, 2) := by decide +kernel
theorem dL_isPut_22 : decode cL_isPut 22 = .ok (.iload_n 3, 1) := by decide +kernel
theorem dL_isPut_23 : decode cL_isPut 23 = .ok (.imul, 1) := by decide +kernel
theorem dL_isPut_24 : decode cL_isPut 24 = .ok (.iload 4, 2) := by decide +kernel
theorem dL_isPut_26 : decode cL_isPut 26 = .ok (.iadd, 1) := by decide +kernel
theorem dL_isPut_27 : decode cL_isPut 27 = .ok (.iload 6, 2) := by decide +kernel
theorem dL_isPut_29 : decode cL_isPut 29 = .ok (.iload 5, 2) := by decide +kernel
theorem dL_isPut_31 : decode cL_isPut 31 = .ok (.bipush 10, 2) := by decide +kernel
theorem dL_isPut_33 : decode cL_isPut 33 = .ok (.ishl, 1) := by decide +kernel
theorem dL_isPut_34 : decode cL_isPut 34 = .ok (.ior, 1) := by decide +kernel
theorem dL_isPut_35 : decode cL_isPut 35 = .ok (.iload 8, 2) := by decide +kernel
theorem dL_isPut_37 : decode cL_isPut 37 = .ok (.bipush 14, 2) := by decide +kernel
theorem dL_isPut_39 : decode cL_isPut 39 = .ok (.ishl, 1) := by decide +kernel
theorem dL_isPut_40 : decode cL_isPut 40 = .ok (.ior, 1) := by decide +kernel
theorem dL_isPut_41 : decode cL_isPut 41 = .ok (.iastore, 1) := by decide +kernel
theorem dL_isPut_42 : decode cL_isPut 42 = .ok (.iload 8, 2) := by decide +kernel
theorem dL_isPut_44 : decode cL_isPut 44 = .ok (.aload_n 2, 1) := by decide +kernel
theorem dL_isPut_45 : decode cL_isPut 45 = .ok (.iconst 4, 1) := by decide +kernel
theorem dL_isPut_46 : decode cL_isPut 46 = .ok (.iload_n 3, 1) := by decide +kernel
theorem dL_isPut_47 : decode cL_isPut 47 = .ok (.imul, 1) := by decide +kernel
theorem dL_isPut_48 : decode cL_isPut 48 = .ok (.iaload, 1) := by decide +kernel
theorem dL_isPut_49 : decode cL_isPut 49 = .ok (.irem, 1) := by decide +kernel
theorem dL_isPut_50 : decode cL_isPut 50 = .ok (.ifCond .ne 27, 3) := by decide +kernel
theorem dL_isPut_53 : decode cL_isPut 53 = .ok (.iload 8, 2) := by decide +kernel
theorem dL_isPut_55 : decode cL_isPut 55 = .ok (.iload 7, 2) := by decide +kernel
theorem dL_isPut_57 : decode cL_isPut 57 = .ok (.if_icmp .gt 20, 3) := by decide +kernel
theorem dL_isPut_60 : decode cL_isPut 60 = .ok (.iload 8, 2) := by decide +kernel
theorem dL_isPut_62 : decode cL_isPut 62 = .ok (.aload_n 2, 1) := by decide +kernel
theorem dL_isPut_63 : decode cL_isPut 63 = .ok (.iconst 4, 1) := by decide +kernel
theorem dL_isPut_64 : decode cL_isPut 64 = .ok (.iload_n 3, 1) := by decide +kernel
theorem dL_isPut_65 : decode cL_isPut 65 = .ok (.imul, 1) := by decide +kernel
theorem dL_isPut_66 : decode cL_isPut 66 = .ok (.iaload, 1) := by decide +kernel
theorem dL_isPut_67 : decode cL_isPut 67 = .ok (.iadd, 1) := by decide +kernel
theorem dL_isPut_68 : decode cL_isPut 68 = .ok (.iload 7, 2) := by decide +kernel
theorem dL_isPut_70 : decode cL_isPut 70 = .ok (.if_icmp .le 7, 3) := by decide +kernel
theorem dL_isPut_73 : decode cL_isPut 73 = .ok (.iconst 1, 1) := by decide +kernel
theorem dL_isPut_74 : decode cL_isPut 74 = .ok (.goto 4, 3) := by decide +kernel
theorem dL_isPut_77 : decode cL_isPut 77 = .ok (.iconst 0, 1) := by decide +kernel
theorem dL_isPut_78 : decode cL_isPut 78 = .ok (.ireturn, 1) := by decide +kernel
set_option maxRecDepth 20000 in
theorem ggL_isRemoved_L_far : GoodIn wsL_isRemoved wsL_far := goodIn_ca (goodIn_ca (goodIn_r _ [4, 5, 6, 7, 8, 9, 10, 11, 12, 13, 14, 15, 16, 17, 18, 19, 20, 21, 22, 23, 24, 25, 26, 27, 28, 29, 30, 31, 32, 33, 34, 35, 36, 37, 38, 39, 40, 41, 42, 43, 44, 45, 46, 47, 48, 49, 50, 51, 52, 53, 54, 55, 56, 57, 58, 59, 60, 61, 62, 63, 64, 65, 66, 67, 68, 69, 70, 71, 72, 73, 74, 75, 76, 77, 78, 79, 80, 81, 82, 83, 84, 85, 86, 87, 88, 89, 90, 91, 92, 93, 94, 95, 96, 101, 102, 103, 104, 105, 106, 107, 108, 109, 110, 111, 112, 113, 114, 115, 116, 117, 118, 119, 120, 121, 122] (by decide +kernel) (by decide +kernel)) (goodIn_sub (fun _ h => List.mem_cons_of_mem _ (List.mem_append_left _ (List.mem_append_right _ h))) (by decide +kernel))) (goodIn_sub (fun _ h => List.mem_cons_of_mem _ (List.mem_append_right _ h)) (by decide +kernel))
set_option maxRecDepth 20000 in
theorem gL_isRemoved_L_far : GoodIn wsL_isRemoved (va_wsS RL 92 yL_far wsL_far) := goodIn_app (goodIn_of _ (by decide +kernel)) ggL_isRemoved_L_far
set_option maxRecDepth 20000 in
theorem ggL_isRemoved_X3_today : GoodIn wsL_isRemoved wsX3_today := goodIn_r _ [100, 15, 117, 118] (by decide +kernel) (by decide +kernel)
set_option maxRecDepth 20000 in
theorem gL_isRemoved_X3_today : GoodIn wsL_isRemoved (wsV RL 67 RX3 yX3_today wsX3_today) := goodIn_app (goodIn_of _ (by decide +kernel)) ggL_isRemoved_X3_today
theorem dL_isRemoved_0 : decode cL_isRemoved 0 = .ok (.bipush 20, 2) := by decide +kernel
theorem dL_isRemoved_2 : decode cL_isRemoved 2 = .ok (.iload 4, 2) := by decide +kernel
theorem dL_isRemoved_4 : decode cL_isRemoved 4 = .ok (.imul, 1) := by decide +kernel
theorem dL_isRemoved_5 : decode cL_isRemoved 5 = .ok (.iload 5, 2) := by decide +kernel
theorem dL_isRemoved_7 : decode cL_isRemoved 7 = .ok (.iadd, 1) := by decide +kernel
theorem dL_isRemoved_8 : decode cL_isRemoved 8 = .ok (.istore 6, 2) := by decide +kernel
theorem dL_isRemoved_10 : decode cL_isRemoved 10 = .ok (.aload_n 1, 1) := by decide +kernel
theorem dL_isRemoved_11 : decode cL_isRemoved 11 = .ok (.iload 6, 2) := by decide +kernel
theorem dL_isRemoved_13 : decode cL_isRemoved 13 = .ok (.iaload, 1) := by decide +kernel
theorem dL_isRemoved_14 : decode cL_isRemoved 14 = .ok (.ifCond .ge 26, 3) := by decide +kernel
theorem dL_isRemoved_17 : decode cL_isRemoved 17 = .ok (.aload_n 0, 1) := by decide +kernel
theorem dL_isRemoved_18 : decode cL_isRemoved 18 = .ok (.iconst 2, 1) := by decide +kernel
theorem dL_isRemoved_19 : decode cL_isRemoved 19 = .ok (.iload 4, 2) := by decide +kernel
theorem dL_isRemoved_21 : decode cL_isRemoved 21 = .ok (.iload 5, 2) := by decide +kernel
theorem dL_isRemoved_23 : decode cL_isRemoved 23 = .ok (.iconst 0, 1) := by decide +kernel
theorem dL_isRemoved_24 : decode cL_isRemoved 24 = .ok (.iconst 0, 1) := by decide +kernel
theorem dL_isRemoved_25 : decode cL_isRemoved 25 = .ok (.invokestatic 92, 3) := by decide +kernel
theorem dL_isRemoved_28 : decode cL_isRemoved 28 = .ok (.sipush (-993), 3) := by decide +kernel
theorem dL_isRemoved_31 : decode cL_isRemoved 31 = .ok (.if_icmp .ne 7, 3) := by decide +kernel
theorem dL_isRemoved_34 : decode cL_isRemoved 34 = .ok (.iconst 1, 1) := by decide +kernel
theorem dL_isRemoved_35 : decode cL_isRemoved 35 = .ok (.goto 4, 3) := by decide +kernel
theorem dL_isRemoved_38 : decode cL_isRemoved 38 = .ok (.iconst 0, 1) := by decide +kernel
theorem dL_isRemoved_39 : decode cL_isRemoved 39 = .ok (.ireturn, 1) := by decide +kernel
theorem dL_isRemoved_40 : decode cL_isRemoved 40 = .ok (.aload_n 3, 1) := by decide +kernel
theorem dL_isRemoved_41 : decode cL_isRemoved 41 = .ok (.iconst 4, 1) := by decide +kernel
theorem dL_isRemoved_42 : decode cL_isRemoved 42 = .ok (.iload 4, 2) := by decide +kernel
theorem dL_isRemoved_44 : decode cL_isRemoved 44 = .ok (.imul, 1) := by decide +kernel
theorem dL_isRemoved_45 : decode cL_isRemoved 45 = .ok (.iconst 1, 1) := by decide +kernel
theorem dL_isRemoved_46 : decode cL_isRemoved 46 = .ok (.iadd, 1) := by decide +kernel
theorem dL_isRemoved_47 : decode cL_isRemoved 47 = .ok (.iaload, 1) := by decide +kernel
theorem dL_isRemoved_48 : decode cL_isRemoved 48 = .ok (.iconst 2, 1) := by decide +kernel
theorem dL_isRemoved_49 : decode cL_isRemoved 49 = .ok (.if_icmp .eq 7, 3) := by decide +kernel
theorem dL_isRemoved_52 : decode cL_isRemoved 52 = .ok (.iconst 1, 1) := by decide +kernel
theorem dL_isRemoved_53 : decode cL_isRemoved 53 = .ok (.goto 4, 3) := by decide +kernel
theorem dL_isRemoved_56 : decode cL_isRemoved 56 = .ok (.iconst 0, 1) := by decide +kernel
theorem dL_isRemoved_57 : decode cL_isRemoved 57 = .ok (.istore 7, 2) := by decide +kernel
theorem dL_isRemoved_59 : decode cL_isRemoved 59 = .ok (.aload_n 1, 1) := by decide +kernel
theorem dL_isRemoved_60 : decode cL_isRemoved 60 = .ok (.iload 6, 2) := by decide +kernel
theorem dL_isRemoved_62 : decode cL_isRemoved 62 = .ok (.iload 7, 2) := by decide +kernel
theorem dL_isRemoved_64 : decode cL_isRemoved 64 = .ok (.ifCond .eq 25, 3) := by decide +kernel
theorem dL_isRemoved_67 : decode cL_isRemoved 67 = .ok (.bipush (-2), 2) := by decide +kernel
theorem dL_isRemoved_69 : decode cL_isRemoved 69 = .ok (.aload_n 0, 1) := by decide +kernel
theorem dL_isRemoved_70 : decode cL_isRemoved 70 = .ok (.invokevirtual 67, 3) := by decide +kernel
theorem dL_isRemoved_73 : decode cL_isRemoved 73 = .ok (.aload_n 0, 1) := by decide +kernel
theorem dL_isRemoved_74 : decode cL_isRemoved 74 = .ok (.invokevirtual 67, 3) := by decide +kernel
theorem dL_isRemoved_77 : decode cL_isRemoved 77 = .ok (.aload_n 3, 1) := by decide +kernel
theorem dL_isRemoved_78 : decode cL_isRemoved 78 = .ok (.iconst 4, 1) := by decide +kernel
theorem dL_isRemoved_79 : decode cL_isRemoved 79 = .ok (.iload 4, 2) := by decide +kernel
theorem dL_isRemoved_81 : decode cL_isRemoved 81 = .ok (.imul, 1) := by decide +kernel
theorem dL_isRemoved_82 : decode cL_isRemoved 82 = .ok (.iaload, 1) := by decide +kernel
theorem dL_isRemoved_83 : decode cL_isRemoved 83 = .ok (.irem, 1) := by decide +kernel
theorem dL_isRemoved_84 : decode cL_isRemoved 84 = .ok (.isub, 1) := by decide +kernel
theorem dL_isRemoved_85 : decode cL_isRemoved 85 = .ok (.isub, 1) := by decide +kernel
theorem dL_isRemoved_86 : decode cL_isRemoved 86 = .ok (.goto 4, 3) := by decide +kernel
theorem dL_isRemoved_89 : decode cL_isRemoved 89 = .ok (.iconst (-1), 1) := by decide +kernel
theorem dL_isRemoved_90 : decode cL_isRemoved 90 = .ok (.iastore, 1) := by decide +kernel
theorem dL_isRemoved_91 : decode cL_isRemoved 91 = .ok (.aload_n 2, 1) := by decide +kernel
theorem dL_isRemoved_92 : decode cL_isRemoved 92 = .ok (.iload 6, 2) := by decide +kernel
theorem dL_isRemoved_94 : decode cL_isRemoved 94 = .ok (.aload_n 0, 1) := by decide +kernel
theorem dL_isRemoved_95 : decode cL_isRemoved 95 = .ok (.invokevirtual 67, 3) := by decide +kernel
theorem dL_isRemoved_98 : decode cL_isRemoved 98 = .ok (.iastore, 1) := by decide +kernel
theorem dL_isRemoved_99 : decode cL_isRemoved 99 = .ok (.aload_n 0, 1) := by decide +kernel
theorem dL_isRemoved_100 : decode cL_isRemoved 100 = .ok (.iconst 2, 1) := by decide +kernel
theorem dL_isRemoved_101 : decode cL_isRemoved 101 = .ok (.iload 4, 2) := by decide +kernel
theorem dL_isRemoved_103 : decode cL_isRemoved 103 = .ok (.iload 5, 2) := by decide +kernel
theorem dL_isRemoved_105 : decode cL_isRemoved 105 = .ok (.iconst 0, 1) := by decide +kernel
theorem dL_isRemoved_106 : decode cL_isRemoved 106 = .ok (.iconst 0, 1) := by decide +kernel
theorem dL_isRemoved_107 : decode cL_isRemoved 107 = .ok (.invokestatic 92, 3) := by decide +kernel
theorem dL_isRemoved_110 : decode cL_isRemoved 110 = .ok (.iload 7, 2) := by decide +kernel
theorem dL_isRemoved_112 : decode cL_isRemoved 112 = .ok (.ifCond .eq 7, 3) := by decide +kernel
theorem dL_isRemoved_115 : decode cL_isRemoved 115 = .ok (.iconst 1, 1) := by decide +kernel
theorem dL_isRemoved_116 : decode cL_isRemoved 116 = .ok (.goto 4, 3) := by decide +kernel
theorem dL_isRemoved_119 : decode cL_isRemoved 119 = .ok (.iconst 0, 1) := by decide +kernel
theorem dL_isRemoved_120 : decode cL_isRemoved 120 = .ok (.if_icmp .ne 7, 3) := by decide +kernel
theorem dL_isRemoved_123 : decode cL_isRemoved 123 = .ok (.iconst 1, 1) := by decide +kernel
theorem dL_isRemoved_124 : decode cL_isRemoved 124 = .ok (.goto 4, 3) := by decide +kernel
theorem dL_isRemoved_127 : decode cL_isRemoved 127 = .ok (.iconst 0, 1) := by decide +kernel
theorem dL_isRemoved_128 : decode cL_isRemoved 128 = .ok (.ireturn, 1) := by decide +kernel
set_option maxRecDepth 20000 in
theorem ggL_isRound_X3_mark : GoodIn wsL_isRound wsX3_mark := goodIn_ca (goodIn_r _ [5, 6, 7, 8, 9, 4, 10, 11, 12, 13, 132, 133, 134, 135, 136, 137, 138, 139, 140, 141, 142, 143] (by decide +kernel) (by decide +kernel)) (goodIn_sub (fun _ h => List.mem_cons_of_mem _ (List.mem_append_left _ (List.mem_append_right _ h))) (by decide +kernel))
set_option maxRecDepth 20000 in
theorem gL_isRound_X3_mark : GoodIn wsL_isRound (wsV RL 48 RX3 yX3_mark wsX3_mark) := goodIn_app (goodIn_of _ (by decide +kernel)) ggL_isRound_X3_mark
set_option maxRecDepth 20000 in
theorem ggL_isRound_L_stampOf : GoodIn wsL_isRound wsL_stampOf := goodIn_r _ [17] (by decide +kernel) (by decide +kernel)
set_option maxRecDepth 20000 in
theorem gL_isRound_L_stampOf : GoodIn wsL_isRound (va_wsS RL 83 yL_stampOf wsL_stampOf) := goodIn_app (goodIn_of _ (by decide +kernel)) ggL_isRound_L_stampOf
set_option maxRecDepth 20000 in
theorem ggL_isRound_X3_open : GoodIn wsL_isRound wsX3_open := goodIn_ca (goodIn_r _ [21, 22, 7, 8, 9, 4, 10, 11, 12, 13, 23, 24, 25, 26, 27, 28, 29, 30, 31, 32, 33, 34, 35, 36, 37, 38, 39, 142, 143, 132, 133, 134, 135, 136, 137, 138, 139, 140, 141] (by decide +kernel) (by decide +kernel)) (goodIn_sub (fun _ h => List.mem_cons_of_mem _ (List.mem_append_left _ (List.mem_append_right _ h))) (by decide +kernel))
set_option maxRecDepth 20000 in
theorem gL_isRound_X3_open : GoodIn wsL_isRound (wsV RL 37 RX3 yX3_open wsX3_open) := goodIn_app (goodIn_of _ (by decide +kernel)) ggL_isRound_X3_open
set_option maxRecDepth 20000 in
theorem ggL_isRound_X3_isOpen : GoodIn wsL_isRound wsX3_isOpen := goodIn_ca (goodIn_r _ [43, 44, 7, 8, 9, 4, 10, 11, 12, 13, 132, 133, 134, 135, 136, 137, 138, 139, 140, 141, 142, 143] (by decide +kernel) (by decide +kernel)) (goodIn_sub (fun _ h => List.mem_cons_of_mem _ (List.mem_append_left _ (List.mem_append_right _ h))) (by decide +kernel))
set_option maxRecDepth 20000 in
theorem gL_isRound_X3_isOpen : GoodIn wsL_isRound (wsV RL 44 RX3 yX3_isOpen wsX3_isOpen) := goodIn_app (goodIn_of _ (by decide +kernel)) ggL_isRound_X3_isOpen
set_option maxRecDepth 20000 in
theorem ggL_isRound_X3_read : GoodIn wsL_isRound wsX3_read := goodIn_ca (goodIn_ca (goodIn_r _ [48, 49, 50, 44, 22, 7, 8, 9, 4, 10, 11, 12, 13, 51, 52, 53, 26, 54, 31, 29, 55, 24, 25, 27, 28, 30, 32, 33, 34, 56, 57, 58, 59, 60, 61, 36, 37, 38, 39, 62, 63, 64, 65, 66, 67, 68, 69, 70, 71, 72, 73, 74, 75, 76, 77, 78, 79, 80, 81, 82, 83, 84, 85, 86, 87, 88, 89, 90, 91, 92, 93, 94, 95, 96, 97, 98, 99, 100, 101, 102, 103, 104, 105, 106, 107, 108, 109, 110, 111, 112, 132, 133, 134, 135, 136, 137, 138, 139, 140, 141, 142, 143, 144, 145, 146, 147, 148, 149, 150, 151, 152, 153] (by decide +kernel) (by decide +kernel)) (goodIn_sub (fun _ h => List.mem_cons_of_mem _ (List.mem_append_right _ h)) (by decide +kernel))) (goodIn_sub (fun _ h => List.mem_cons_of_mem _ (List.mem_append_left _ (List.mem_append_right _ h))) (by decide +kernel))
set_option maxRecDepth 20000 in
theorem gL_isRound_X3_read : GoodIn wsL_isRound (wsV RL 41 RX3 yX3_read wsX3_read) := goodIn_app (goodIn_of _ (by decide +kernel)) ggL_isRound_X3_read
set_option maxRecDepth 20000 in
theorem ggL_isRound_X3_today : GoodIn wsL_isRound wsX3_today := goodIn_r _ [116, 22, 142, 143] (by decide +kernel) (by decide +kernel)
set_option maxRecDepth 20000 in
theorem gL_isRound_X3_today : GoodIn wsL_isRound (wsV RL 67 RX3 yX3_today wsX3_today) := goodIn_app (goodIn_of _ (by decide +kernel)) ggL_isRound_X3_today
set_option maxRecDepth 20000 in
theorem ggL_isRound_X3_wrong : GoodIn wsL_isRound wsX3_wrong := goodIn_ca (goodIn_r _ [120, 121, 122, 123, 7, 8, 9, 4, 10, 11, 12, 13, 124, 125, 126, 90, 127, 128, 129, 130, 131, 92, 93, 94, 95, 132, 133, 134, 135, 136, 137, 138, 139, 140, 141, 144, 145, 146, 147, 148, 149, 142, 143, 150, 151, 152, 153] (by decide +kernel) (by decide +kernel)) (goodIn_sub (fun _ h => List.mem_cons_of_mem _ (List.mem_append_left _ (List.mem_append_right _ h))) (by decide +kernel))
set_option maxRecDepth 20000 in
theorem gL_isRound_X3_wrong : GoodIn wsL_isRound (wsV RL 58 RX3 yX3_wrong wsX3_wrong) := goodIn_app (goodIn_of _ (by decide +kernel)) ggL_isRound_X3_wrong
theorem dL_isRound_0 : decode cL_isRound 0 = .ok (.iload 5, 2) := by decide +kernel
theorem dL_isRound_2 : decode cL_isRound 2 = .ok (.ifCond .eq 7, 3) := by decide +kernel
theorem dL_isRound_5 : decode cL_isRound 5 = .ok (.iconst 0, 1) := by decide +kernel
theorem dL_isRound_6 : decode cL_isRound 6 = .ok (.goto 9, 3) := by decide +kernel
theorem dL_isRound_9 : decode cL_isRound 9 = .ok (.aload_n 0, 1) := by decide +kernel
theorem dL_isRound_10 : decode cL_isRound 10 = .ok (.iload 4, 2) := by decide +kernel
theorem dL_isRound_12 : decode cL_isRound 12 = .ok (.invokevirtual 48, 3) := by decide +kernel
theorem dL_isRound_15 : decode cL_isRound 15 = .ok (.istore 6, 2) := by decide +kernel
theorem dL_isRound_17 : decode cL_isRound 17 = .ok (.iconst 0, 1) := by decide +kernel
theorem dL_isRound_18 : decode cL_isRound 18 = .ok (.istore 7, 2) := by decide +kernel
theorem dL_isRound_20 : decode cL_isRound 20 = .ok (.iconst 0, 1) := by decide +kernel
theorem dL_isRound_21 : decode cL_isRound 21 = .ok (.istore 8, 2) := by decide +kernel
theorem dL_isRound_23 : decode cL_isRound 23 = .ok (.bipush 20, 2) := by decide +kernel
theorem dL_isRound_25 : decode cL_isRound 25 = .ok (.iload 4, 2) := by decide +kernel
theorem dL_isRound_27 : decode cL_isRound 27 = .ok (.imul, 1) := by decide +kernel
theorem dL_isRound_28 : decode cL_isRound 28 = .ok (.istore 9, 2) := by decide +kernel
theorem dL_isRound_30 : decode cL_isRound 30 = .ok (.iload 9, 2) := by decide +kernel
theorem dL_isRound_32 : decode cL_isRound 32 = .ok (.bipush 20, 2) := by decide +kernel
theorem dL_isRound_34 : decode cL_isRound 34 = .ok (.iload 4, 2) := by decide +kernel
theorem dL_isRound_36 : decode cL_isRound 36 = .ok (.imul, 1) := by decide +kernel
theorem dL_isRound_37 : decode cL_isRound 37 = .ok (.bipush 20, 2) := by decide +kernel
theorem dL_isRound_39 : decode cL_isRound 39 = .ok (.iadd, 1) := by decide +kernel
theorem dL_isRound_40 : decode cL_isRound 40 = .ok (.if_icmp .ge 91, 3) := by decide +kernel
theorem dL_isRound_43 : decode cL_isRound 43 = .ok (.aload_n 1, 1) := by decide +kernel
theorem dL_isRound_44 : decode cL_isRound 44 = .ok (.iload 9, 2) := by decide +kernel
theorem dL_isRound_46 : decode cL_isRound 46 = .ok (.iaload, 1) := by decide +kernel
theorem dL_isRound_47 : decode cL_isRound 47 = .ok (.iconst (-1), 1) := by decide +kernel
theorem dL_isRound_48 : decode cL_isRound 48 = .ok (.if_icmp .eq 19, 3) := by decide +kernel
theorem dL_isRound_51 : decode cL_isRound 51 = .ok (.aload_n 1, 1) := by decide +kernel
theorem dL_isRound_52 : decode cL_isRound 52 = .ok (.iload 9, 2) := by decide +kernel
theorem dL_isRound_54 : decode cL_isRound 54 = .ok (.iaload, 1) := by decide +kernel
theorem dL_isRound_55 : decode cL_isRound 55 = .ok (.invokestatic 83, 3) := by decide +kernel
theorem dL_isRound_58 : decode cL_isRound 58 = .ok (.iload 6, 2) := by decide +kernel
theorem dL_isRound_60 : decode cL_isRound 60 = .ok (.if_icmp .lt 7, 3) := by decide +kernel
theorem dL_isRound_63 : decode cL_isRound 63 = .ok (.iconst 1, 1) := by decide +kernel
theorem dL_isRound_64 : decode cL_isRound 64 = .ok (.goto 4, 3) := by decide +kernel
theorem dL_isRound_67 : decode cL_isRound 67 = .ok (.iconst 0, 1) := by decide +kernel
theorem dL_isRound_68 : decode cL_isRound 68 = .ok (.istore 10, 2) := by decide +kernel
theorem dL_isRound_70 : decode cL_isRound 70 = .ok (.iload 7, 2) := by decide +kernel
theorem dL_isRound_72 : decode cL_isRound 72 = .ok (.iload 10, 2) := by decide +kernel
theorem dL_isRound_74 : decode cL_isRound 74 = .ok (.ifCond .eq 7, 3) := by decide +kernel
theorem dL_isRound_77 : decode cL_isRound 77 = .ok (.iconst 1, 1) := by decide +kernel
theorem dL_isRound_78 : decode cL_isRound 78 = .ok (.goto 4, 3) := by decide +kernel
theorem dL_isRound_81 : decode cL_isRound 81 = .ok (.iconst 0, 1) := by decide +kernel
theorem dL_isRound_82 : decode cL_isRound 82 = .ok (.iadd, 1) := by decide +kernel
theorem dL_isRound_83 : decode cL_isRound 83 = .ok (.istore 7, 2) := by decide +kernel
theorem dL_isRound_85 : decode cL_isRound 85 = .ok (.aload_n 2, 1) := by decide +kernel
theorem dL_isRound_86 : decode cL_isRound 86 = .ok (.iload 9, 2) := by decide +kernel
theorem dL_isRound_88 : decode cL_isRound 88 = .ok (.iload 10, 2) := by decide +kernel
theorem dL_isRound_90 : decode cL_isRound 90 = .ok (.ifCond .eq 21, 3) := by decide +kernel
theorem dL_isRound_93 : decode cL_isRound 93 = .ok (.aload_n 1, 1) := by decide +kernel
theorem dL_isRound_94 : decode cL_isRound 94 = .ok (.iload 9, 2) := by decide +kernel
theorem dL_isRound_96 : decode cL_isRound 96 = .ok (.iaload, 1) := by decide +kernel
theorem dL_isRound_97 : decode cL_isRound 97 = .ok (.ifCond .ge 7, 3) := by decide +kernel
theorem dL_isRound_100 : decode cL_isRound 100 = .ok (.iconst (-1), 1) := by decide +kernel
theorem dL_isRound_101 : decode cL_isRound 101 = .ok (.goto 23, 3) := by decide +kernel
theorem dL_isRound_104 : decode cL_isRound 104 = .ok (.aload_n 1, 1) := by decide +kernel
theorem dL_isRound_105 : decode cL_isRound 105 = .ok (.iload 9, 2) := by decide +kernel
theorem dL_isRound_107 : decode cL_isRound 107 = .ok (.iaload, 1) := by decide +kernel
theorem dL_isRound_108 : decode cL_isRound 108 = .ok (.goto 16, 3) := by decide +kernel
theorem dL_isRound_111 : decode cL_isRound 111 = .ok (.iload 5, 2) := by decide +kernel
theorem dL_isRound_113 : decode cL_isRound 113 = .ok (.ifCond .eq 7, 3) := by decide +kernel
theorem dL_isRound_116 : decode cL_isRound 116 = .ok (.iconst (-1), 1) := by decide +kernel
theorem dL_isRound_117 : decode cL_isRound 117 = .ok (.goto 7, 3) := by decide +kernel
theorem dL_isRound_120 : decode cL_isRound 120 = .ok (.aload_n 2, 1) := by decide +kernel
theorem dL_isRound_121 : decode cL_isRound 121 = .ok (.iload 9, 2) := by decide +kernel
theorem dL_isRound_123 : decode cL_isRound 123 = .ok (.iaload, 1) := by decide +kernel
theorem dL_isRound_124 : decode cL_isRound 124 = .ok (.iastore, 1) := by decide +kernel
theorem dL_isRound_125 : decode cL_isRound 125 = .ok (.iinc 9 1, 3) := by decide +kernel
theorem dL_isRound_128 : decode cL_isRound 128 = .ok (.goto (-98), 3) := by decide +kernel
theorem dL_isRound_131 : decode cL_isRound 131 = .ok (.aload_n 0, 1) := by decide +kernel
theorem dL_isRound_132 : decode cL_isRound 132 = .ok (.iload 4, 2) := by decide +kernel
theorem dL_isRound_134 : decode cL_isRound 134 = .ok (.iload 5, 2) := by decide +kernel
theorem dL_isRound_136 : decode cL_isRound 136 = .ok (.invokevirtual 37, 3) := by decide +kernel
theorem dL_isRound_139 : decode cL_isRound 139 = .ok (.iload 6, 2) := by decide +kernel
theorem dL_isRound_141 : decode cL_isRound 141 = .ok (.if_icmp .ne 16, 3) := by decide +kernel
theorem dL_isRound_144 : decode cL_isRound 144 = .ok (.aload_n 0, 1) := by decide +kernel
theorem dL_isRound_145 : decode cL_isRound 145 = .ok (.iload 4, 2) := by decide +kernel
theorem dL_isRound_147 : decode cL_isRound 147 = .ok (.invokevirtual 44, 3) := by decide +kernel
theorem dL_isRound_150 : decode cL_isRound 150 = .ok (.ifCond .eq 7, 3) := by decide +kernel
theorem dL_isRound_153 : decode cL_isRound 153 = .ok (.iconst 1, 1) := by decide +kernel
theorem dL_isRound_154 : decode cL_isRound 154 = .ok (.goto 4, 3) := by decide +kernel
theorem dL_isRound_157 : decode cL_isRound 157 = .ok (.iconst 0, 1) := by decide +kernel
theorem dL_isRound_158 : decode cL_isRound 158 = .ok (.istore 9, 2) := by decide +kernel
theorem dL_isRound_160 : decode cL_isRound 160 = .ok (.iload 9, 2) := by decide +kernel
theorem dL_isRound_162 : decode cL_isRound 162 = .ok (.ifCond .eq 95, 3) := by decide +kernel
theorem dL_isRound_165 : decode cL_isRound 165 = .ok (.aload_n 0, 1) := by decide +kernel
theorem dL_isRound_166 : decode cL_isRound 166 = .ok (.iload 4, 2) := by decide +kernel
theorem dL_isRound_168 : decode cL_isRound 168 = .ok (.invokevirtual 44, 3) := by decide +kernel
theorem dL_isRound_171 : decode cL_isRound 171 = .ok (.ifCond .eq 86, 3) := by decide +kernel
theorem dL_isRound_174 : decode cL_isRound 174 = .ok (.iload 8, 2) := by decide +kernel
theorem dL_isRound_176 : decode cL_isRound 176 = .ok (.bipush 9, 2) := by decide +kernel
theorem dL_isRound_178 : decode cL_isRound 178 = .ok (.if_icmp .ge 79, 3) := by decide +kernel
theorem dL_isRound_181 : decode cL_isRound 181 = .ok (.aload_n 0, 1) := by decide +kernel
theorem dL_isRound_182 : decode cL_isRound 182 = .ok (.iload 4, 2) := by decide +kernel
theorem dL_isRound_184 : decode cL_isRound 184 = .ok (.invokevirtual 41, 3) := by decide +kernel
theorem dL_isRound_187 : decode cL_isRound 187 = .ok (.istore 10, 2) := by decide +kernel
theorem dL_isRound_189 : decode cL_isRound 189 = .ok (.iload 10, 2) := by decide +kernel
theorem dL_isRound_191 : decode cL_isRound 191 = .ok (.iload 7, 2) := by decide +kernel
theorem dL_isRound_193 : decode cL_isRound 193 = .ok (.iconst 3, 1) := by decide +kernel
theorem dL_isRound_194 : decode cL_isRound 194 = .ok (.if_icmp .ge 8, 3) := by decide +kernel
theorem dL_isRound_197 : decode cL_isRound 197 = .ok (.iload 7, 2) := by decide +kernel
theorem dL_isRound_199 : decode cL_isRound 199 = .ok (.goto 4, 3) := by decide +kernel
theorem dL_isRound_202 : decode cL_isRound 202 = .ok (.iconst 3, 1) := by decide +kernel
theorem dL_isRound_203 : decode cL_isRound 203 = .ok (.if_icmp .ne 7, 3) := by decide +kernel
theorem dL_isRound_206 : decode cL_isRound 206 = .ok (.iconst 1, 1) := by decide +kernel
theorem dL_isRound_207 : decode cL_isRound 207 = .ok (.goto 4, 3) := by decide +kernel
theorem dL_isRound_210 : decode cL_isRound 210 = .ok (.iconst 0, 1) := by decide +kernel
theorem dL_isRound_211 : decode cL_isRound 211 = .ok (.istore 9, 2) := by decide +kernel
theorem dL_isRound_213 : decode cL_isRound 213 = .ok (.iload 7, 2) := by decide +kernel
theorem dL_isRound_215 : decode cL_isRound 215 = .ok (.iload 10, 2) := by decide +kernel
theorem dL_isRound_217 : decode cL_isRound 217 = .ok (.isub, 1) := by decide +kernel
theorem dL_isRound_218 : decode cL_isRound 218 = .ok (.istore 7, 2) := by decide +kernel
theorem dL_isRound_220 : decode cL_isRound 220 = .ok (.iinc 8 1, 3) := by decide +kernel
theorem dL_isRound_223 : decode cL_isRound 223 = .ok (.iload 9, 2) := by decide +kernel
theorem dL_isRound_225 : decode cL_isRound 225 = .ok (.ifCond .eq 26, 3) := by decide +kernel
theorem dL_isRound_228 : decode cL_isRound 228 = .ok (.aload_n 0, 1) := by decide +kernel
theorem dL_isRound_229 : decode cL_isRound 229 = .ok (.iload 4, 2) := by decide +kernel
theorem dL_isRound_231 : decode cL_isRound 231 = .ok (.invokevirtual 44, 3) := by decide +kernel
theorem dL_isRound_234 : decode cL_isRound 234 = .ok (.iload 7, 2) := by decide +kernel
theorem dL_isRound_236 : decode cL_isRound 236 = .ok (.ifCond .le 7, 3) := by decide +kernel
theorem dL_isRound_239 : decode cL_isRound 239 = .ok (.iconst 1, 1) := by decide +kernel
theorem dL_isRound_240 : decode cL_isRound 240 = .ok (.goto 4, 3) := by decide +kernel
theorem dL_isRound_243 : decode cL_isRound 243 = .ok (.iconst 0, 1) := by decide +kernel
theorem dL_isRound_244 : decode cL_isRound 244 = .ok (.if_icmp .ne 7, 3) := by decide +kernel
theorem dL_isRound_247 : decode cL_isRound 247 = .ok (.iconst 1, 1) := by decide +kernel
theorem dL_isRound_248 : decode cL_isRound 248 = .ok (.goto 4, 3) := by decide +kernel
theorem dL_isRound_251 : decode cL_isRound 251 = .ok (.iconst 0, 1) := by decide +kernel
theorem dL_isRound_252 : decode cL_isRound 252 = .ok (.istore 9, 2) := by decide +kernel
theorem dL_isRound_254 : decode cL_isRound 254 = .ok (.goto (-94), 3) := by decide +kernel
theorem dL_isRound_257 : decode cL_isRound 257 = .ok (.aload_n 3, 1) := by decide +kernel
theorem dL_isRound_258 : decode cL_isRound 258 = .ok (.iconst 4, 1) := by decide +kernel
theorem dL_isRound_259 : decode cL_isRound 259 = .ok (.iload 4, 2) := by decide +kernel
theorem dL_isRound_261 : decode cL_isRound 261 = .ok (.imul, 1) := by decide +kernel
theorem dL_isRound_262 : decode cL_isRound 262 = .ok (.iconst 2, 1) := by decide +kernel
theorem dL_isRound_263 : decode cL_isRound 263 = .ok (.iadd, 1) := by decide +kernel
theorem dL_isRound_264 : decode cL_isRound 264 = .ok (.iconst 0, 1) := by decide +kernel
theorem dL_isRound_265 : decode cL_isRound 265 = .ok (.iastore, 1) := by decide +kernel
theorem dL_isRound_266 : decode cL_isRound 266 = .ok (.iload 9, 2) := by decide +kernel
theorem dL_isRound_268 : decode cL_isRound 268 = .ok (.ifCond .eq 51, 3) := by decide +kernel
theorem dL_isRound_271 : decode cL_isRound 271 = .ok (.iload 7, 2) := by decide +kernel
theorem dL_isRound_273 : decode cL_isRound 273 = .ok (.ifCond .ne 46, 3) := by decide +kernel
theorem dL_isRound_276 : decode cL_isRound 276 = .ok (.aload_n 0, 1) := by decide +kernel
theorem dL_isRound_277 : decode cL_isRound 277 = .ok (.iload 4, 2) := by decide +kernel
theorem dL_isRound_279 : decode cL_isRound 279 = .ok (.invokevirtual 48, 3) := by decide +kernel
theorem dL_isRound_282 : decode cL_isRound 282 = .ok (.aload_n 0, 1) := by decide +kernel
theorem dL_isRound_283 : decode cL_isRound 283 = .ok (.invokevirtual 67, 3) := by decide +kernel
theorem dL_isRound_286 : decode cL_isRound 286 = .ok (.aload_n 0, 1) := by decide +kernel
theorem dL_isRound_287 : decode cL_isRound 287 = .ok (.invokevirtual 67, 3) := by decide +kernel
theorem dL_isRound_290 : decode cL_isRound 290 = .ok (.aload_n 3, 1) := by decide +kernel
theorem dL_isRound_291 : decode cL_isRound 291 = .ok (.iconst 4, 1) := by decide +kernel
theorem dL_isRound_292 : decode cL_isRound 292 = .ok (.iload 4, 2) := by decide +kernel
theorem dL_isRound_294 : decode cL_isRound 294 = .ok (.imul, 1) := by decide +kernel
theorem dL_isRound_295 : decode cL_isRound 295 = .ok (.iaload, 1) := by decide +kernel
theorem dL_isRound_296 : decode cL_isRound 296 = .ok (.irem, 1) := by decide +kernel
theorem dL_isRound_297 : decode cL_isRound 297 = .ok (.isub, 1) := by decide +kernel
theorem dL_isRound_298 : decode cL_isRound 298 = .ok (.if_icmp .ne 21, 3) := by decide +kernel
theorem dL_isRound_301 : decode cL_isRound 301 = .ok (.iload 5, 2) := by decide +kernel
theorem dL_isRound_303 : decode cL_isRound 303 = .ok (.ifCond .eq 12, 3) := by decide +kernel
theorem dL_isRound_306 : decode cL_isRound 306 = .ok (.aload_n 0, 1) := by decide +kernel
theorem dL_isRound_307 : decode cL_isRound 307 = .ok (.iload 4, 2) := by decide +kernel
theorem dL_isRound_309 : decode cL_isRound 309 = .ok (.invokevirtual 58, 3) := by decide +kernel
theorem dL_isRound_312 : decode cL_isRound 312 = .ok (.ifCond .ne 7, 3) := by decide +kernel
theorem dL_isRound_315 : decode cL_isRound 315 = .ok (.iconst 1, 1) := by decide +kernel
theorem dL_isRound_316 : decode cL_isRound 316 = .ok (.goto 4, 3) := by decide +kernel
theorem dL_isRound_319 : decode cL_isRound 319 = .ok (.iconst 0, 1) := by decide +kernel
theorem dL_isRound_320 : decode cL_isRound 320 = .ok (.ireturn, 1) := by decide +kernel
set_option maxRecDepth 20000 in
theorem ggL_isPage_L_near : GoodIn wsL_isPage wsL_near := goodIn_ca (goodIn_ca (goodIn_r _ [4, 5, 6, 7, 8, 9, 10, 11, 12, 13, 14, 15, 16, 17, 18, 19, 20, 21, 22, 23, 24, 25, 26, 27, 28, 29, 30, 31, 32, 33, 34, 35, 36, 37, 38, 39, 40, 41, 42, 43, 44, 45, 46, 47, 48, 49, 50, 51, 52, 53, 54, 55, 56, 57, 58, 59, 60, 61, 62, 63, 64, 65, 66, 67, 68, 69, 70, 71, 72, 73, 74, 75, 76, 77, 78, 79, 80, 81, 82, 83, 84, 85, 86, 87, 88, 89, 90, 91, 92, 93, 94, 95, 96, 97, 98, 99, 100, 101, 102, 103, 104, 105, 106, 107, 108, 109, 110, 111, 112, 113, 114, 115, 116, 117, 118, 119, 120, 121, 122, 123, 124, 125, 126, 127, 128, 129, 130, 131, 132, 133, 134, 135, 136, 137, 138, 139, 140, 141, 142, 143, 144, 145, 146, 147, 148, 149, 150, 151, 152, 153, 154, 155, 156, 157, 158, 159, 160, 161, 162, 163, 164, 165, 166, 167, 168, 169, 170, 171, 172, 173, 174, 175, 176, 177, 178, 179, 180, 181, 182, 183, 184, 185, 186, 187, 188] (by decide +kernel) (by decide +kernel)) (goodIn_sub (fun _ h => List.mem_cons_of_mem _ (List.mem_append_left _ (List.mem_append_right _ h))) (by decide +kernel))) (goodIn_sub (fun _ h => List.mem_cons_of_mem _ (List.mem_append_right _ h)) (by decide +kernel))
set_option maxRecDepth 20000 in
theorem gL_isPage_L_near : GoodIn wsL_isPage (va_wsS RL 95 yL_near wsL_near) := goodIn_app (goodIn_of _ (by decide +kernel)) ggL_isPage_L_near
set_option maxRecDepth 20000 in
theorem ggL_isPage_X3_mark : GoodIn wsL_isPage wsX3_mark := goodIn_ca (goodIn_r _ [113, 114, 13, 14, 15, 10, 16, 17, 18, 19, 169, 170, 171, 172, 173, 174, 175, 176, 177, 178, 167, 168] (by decide +kernel) (by decide +kernel)) (goodIn_sub (fun _ h => List.mem_cons_of_mem _ (List.mem_append_left _ (List.mem_append_right _ h))) (by decide +kernel))
set_option maxRecDepth 20000 in
theorem gL_isPage_X3_mark : GoodIn wsL_isPage (wsV RL 48 RX3 yX3_mark wsX3_mark) := goodIn_app (goodIn_of _ (by decide +kernel)) ggL_isPage_X3_mark
set_option maxRecDepth 20000 in
theorem ggL_isPage_X3_wrong : GoodIn wsL_isPage wsX3_wrong := goodIn_ca (goodIn_r _ [139, 119, 140, 141, 13, 14, 15, 10, 16, 17, 18, 19, 142, 143, 144, 83, 145, 146, 147, 148, 149, 85, 86, 87, 88, 169, 170, 171, 172, 173, 174, 175, 176, 177, 178, 179, 180, 181, 182, 183, 184, 167, 168, 185, 186, 187, 188] (by decide +kernel) (by decide +kernel)) (goodIn_sub (fun _ h => List.mem_cons_of_mem _ (List.mem_append_left _ (List.mem_append_right _ h))) (by decide +kernel))
set_option maxRecDepth 20000 in
theorem gL_isPage_X3_wrong : GoodIn wsL_isPage (wsV RL 58 RX3 yX3_wrong wsX3_wrong) := goodIn_app (goodIn_of _ (by decide +kernel)) ggL_isPage_X3_wrong
set_option maxRecDepth 20000 in
theorem ggL_isPage_X3_read : GoodIn wsL_isPage wsX3_read := goodIn_ca (goodIn_ca (goodIn_r _ [40, 41, 42, 43, 12, 13, 14, 15, 10, 16, 17, 18, 19, 44, 45, 46, 23, 47, 28, 26, 48, 21, 22, 24, 25, 27, 29, 30, 31, 49, 50, 51, 52, 53, 54, 33, 34, 35, 36, 55, 56, 57, 58, 59, 60, 61, 62, 63, 64, 65, 66, 67, 68, 69, 70, 71, 72, 73, 74, 75, 76, 77, 78, 79, 80, 81, 82, 83, 84, 85, 86, 87, 88, 89, 90, 91, 92, 93, 94, 95, 96, 97, 98, 99, 100, 101, 102, 103, 104, 105, 169, 170, 171, 172, 173, 174, 175, 176, 177, 178, 167, 168, 179, 180, 181, 182, 183, 184, 185, 186, 187, 188] (by decide +kernel) (by decide +kernel)) (goodIn_sub (fun _ h => List.mem_cons_of_mem _ (List.mem_append_right _ h)) (by decide +kernel))) (goodIn_sub (fun _ h => List.mem_cons_of_mem _ (List.mem_append_left _ (List.mem_append_right _ h))) (by decide +kernel))
set_option maxRecDepth 20000 in
theorem gL_isPage_X3_read : GoodIn wsL_isPage (wsV RL 41 RX3 yX3_read wsX3_read) := goodIn_app (goodIn_of _ (by decide +kernel)) ggL_isPage_X3_read
set_option maxRecDepth 20000 in
theorem ggL_isPage_X3_isOpen : GoodIn wsL_isPage wsX3_isOpen := goodIn_ca (goodIn_r _ [109, 43, 13, 14, 15, 10, 16, 17, 18, 19, 169, 170, 171, 172, 173, 174, 175, 176, 177, 178, 167, 168] (by decide +kernel) (by decide +kernel)) (goodIn_sub (fun _ h => List.mem_cons_of_mem _ (List.mem_append_left _ (List.mem_append_right _ h))) (by decide +kernel))
set_option maxRecDepth 20000 in
theorem gL_isPage_X3_isOpen : GoodIn wsL_isPage (wsV RL 44 RX3 yX3_isOpen wsX3_isOpen) := goodIn_app (goodIn_of _ (by decide +kernel)) ggL_isPage_X3_isOpen
set_option maxRecDepth 20000 in
theorem ggL_isPage_X3_stored : GoodIn wsL_isPage wsX3_stored := goodIn_ca (goodIn_r _ [118, 119, 120, 121, 13, 14, 15, 10, 16, 17, 18, 19, 122, 123, 124, 125, 126, 127, 169, 170, 171, 172, 173, 174, 175, 176, 177, 178, 185, 186, 187, 188, 167, 168] (by decide +kernel) (by decide +kernel)) (goodIn_sub (fun _ h => List.mem_cons_of_mem _ (List.mem_append_left _ (List.mem_append_right _ h))) (by decide +kernel))
set_option maxRecDepth 20000 in
theorem gL_isPage_X3_stored : GoodIn wsL_isPage (wsV RL 51 RX3 yX3_stored wsX3_stored) := goodIn_app (goodIn_of _ (by decide +kernel)) ggL_isPage_X3_stored
theorem dL_isPage_0 : decode cL_isPage 0 = .ok (.aload_n 3, 1) := by decide +kernel
theorem dL_isPage_1 : decode cL_isPage 1 = .ok (.iconst 4, 1) := by decide +kernel
theorem dL_isPage_2 : decode cL_isPage 2 = .ok (.iload 4, 2) := by decide +kernel
theorem dL_isPage_4 : decode cL_isPage 4 = .ok (.imul, 1) := by decide +kernel
theorem dL_isPage_5 : decode cL_isPage 5 = .ok (.iconst 2, 1) := by decide +kernel
theorem dL_isPage_6 : decode cL_isPage 6 = .ok (.iadd, 1) := by decide +kernel
theorem dL_isPage_7 : decode cL_isPage 7 = .ok (.iaload, 1) := by decide +kernel
theorem dL_isPage_8 : decode cL_isPage 8 = .ok (.ifCond .ne 23, 3) := by decide +kernel
theorem dL_isPage_11 : decode cL_isPage 11 = .ok (.aload_n 0, 1) := by decide +kernel
theorem dL_isPage_12 : decode cL_isPage 12 = .ok (.iconst 1, 1) := by decide +kernel
theorem dL_isPage_13 : decode cL_isPage 13 = .ok (.iload 4, 2) := by decide +kernel
theorem dL_isPage_15 : decode cL_isPage 15 = .ok (.iconst 0, 1) := by decide +kernel
theorem dL_isPage_16 : decode cL_isPage 16 = .ok (.invokestatic 95, 3) := by decide +kernel
theorem dL_isPage_19 : decode cL_isPage 19 = .ok (.sipush (-993), 3) := by decide +kernel
theorem dL_isPage_22 : decode cL_isPage 22 = .ok (.if_icmp .ne 7, 3) := by decide +kernel
theorem dL_isPage_25 : decode cL_isPage 25 = .ok (.iconst 1, 1) := by decide +kernel
theorem dL_isPage_26 : decode cL_isPage 26 = .ok (.goto 4, 3) := by decide +kernel
theorem dL_isPage_29 : decode cL_isPage 29 = .ok (.iconst 0, 1) := by decide +kernel
theorem dL_isPage_30 : decode cL_isPage 30 = .ok (.ireturn, 1) := by decide +kernel
theorem dL_isPage_31 : decode cL_isPage 31 = .ok (.aload_n 0, 1) := by decide +kernel
theorem dL_isPage_32 : decode cL_isPage 32 = .ok (.iload 4, 2) := by decide +kernel
theorem dL_isPage_34 : decode cL_isPage 34 = .ok (.invokevirtual 48, 3) := by decide +kernel
theorem dL_isPage_37 : decode cL_isPage 37 = .ok (.istore 5, 2) := by decide +kernel
theorem dL_isPage_39 : decode cL_isPage 39 = .ok (.aload_n 0, 1) := by decide +kernel
theorem dL_isPage_40 : decode cL_isPage 40 = .ok (.iload 4, 2) := by decide +kernel
theorem dL_isPage_42 : decode cL_isPage 42 = .ok (.invokevirtual 58, 3) := by decide +kernel
theorem dL_isPage_45 : decode cL_isPage 45 = .ok (.istore 6, 2) := by decide +kernel
theorem dL_isPage_47 : decode cL_isPage 47 = .ok (.aload_n 0, 1) := by decide +kernel
theorem dL_isPage_48 : decode cL_isPage 48 = .ok (.iload 4, 2) := by decide +kernel
theorem dL_isPage_50 : decode cL_isPage 50 = .ok (.invokevirtual 41, 3) := by decide +kernel
theorem dL_isPage_53 : decode cL_isPage 53 = .ok (.istore 7, 2) := by decide +kernel
theorem dL_isPage_55 : decode cL_isPage 55 = .ok (.iconst 0, 1) := by decide +kernel
theorem dL_isPage_56 : decode cL_isPage 56 = .ok (.istore 8, 2) := by decide +kernel
theorem dL_isPage_58 : decode cL_isPage 58 = .ok (.aload_n 0, 1) := by decide +kernel
theorem dL_isPage_59 : decode cL_isPage 59 = .ok (.iload 4, 2) := by decide +kernel
theorem dL_isPage_61 : decode cL_isPage 61 = .ok (.invokevirtual 44, 3) := by decide +kernel
theorem dL_isPage_64 : decode cL_isPage 64 = .ok (.ifCond .ne 7, 3) := by decide +kernel
theorem dL_isPage_67 : decode cL_isPage 67 = .ok (.iconst 1, 1) := by decide +kernel
theorem dL_isPage_68 : decode cL_isPage 68 = .ok (.goto 4, 3) := by decide +kernel
theorem dL_isPage_71 : decode cL_isPage 71 = .ok (.iconst 0, 1) := by decide +kernel
theorem dL_isPage_72 : decode cL_isPage 72 = .ok (.istore 9, 2) := by decide +kernel
theorem dL_isPage_74 : decode cL_isPage 74 = .ok (.aload_n 3, 1) := by decide +kernel
theorem dL_isPage_75 : decode cL_isPage 75 = .ok (.iconst 4, 1) := by decide +kernel
theorem dL_isPage_76 : decode cL_isPage 76 = .ok (.iload 4, 2) := by decide +kernel
theorem dL_isPage_78 : decode cL_isPage 78 = .ok (.imul, 1) := by decide +kernel
theorem dL_isPage_79 : decode cL_isPage 79 = .ok (.iconst 2, 1) := by decide +kernel
theorem dL_isPage_80 : decode cL_isPage 80 = .ok (.iadd, 1) := by decide +kernel
theorem dL_isPage_81 : decode cL_isPage 81 = .ok (.iaload, 1) := by decide +kernel
theorem dL_isPage_82 : decode cL_isPage 82 = .ok (.iconst 2, 1) := by decide +kernel
theorem dL_isPage_83 : decode cL_isPage 83 = .ok (.if_icmp .ne 7, 3) := by decide +kernel
theorem dL_isPage_86 : decode cL_isPage 86 = .ok (.iconst 1, 1) := by decide +kernel
theorem dL_isPage_87 : decode cL_isPage 87 = .ok (.goto 4, 3) := by decide +kernel
theorem dL_isPage_90 : decode cL_isPage 90 = .ok (.iconst 0, 1) := by decide +kernel
theorem dL_isPage_91 : decode cL_isPage 91 = .ok (.istore 10, 2) := by decide +kernel
theorem dL_isPage_93 : decode cL_isPage 93 = .ok (.iload 7, 2) := by decide +kernel
theorem dL_isPage_95 : decode cL_isPage 95 = .ok (.ifCond .lt 24, 3) := by decide +kernel
theorem dL_isPage_98 : decode cL_isPage 98 = .ok (.iload 7, 2) := by decide +kernel
theorem dL_isPage_100 : decode cL_isPage 100 = .ok (.iconst 3, 1) := by decide +kernel
theorem dL_isPage_101 : decode cL_isPage 101 = .ok (.if_icmp .gt 18, 3) := by decide +kernel
theorem dL_isPage_104 : decode cL_isPage 104 = .ok (.iload 9, 2) := by decide +kernel
theorem dL_isPage_106 : decode cL_isPage 106 = .ok (.ifCond .ne 9, 3) := by decide +kernel
theorem dL_isPage_109 : decode cL_isPage 109 = .ok (.iload 7, 2) := by decide +kernel
theorem dL_isPage_111 : decode cL_isPage 111 = .ok (.iconst 3, 1) := by decide +kernel
theorem dL_isPage_112 : decode cL_isPage 112 = .ok (.if_icmp .ne 7, 3) := by decide +kernel
theorem dL_isPage_115 : decode cL_isPage 115 = .ok (.iconst 1, 1) := by decide +kernel
theorem dL_isPage_116 : decode cL_isPage 116 = .ok (.goto 4, 3) := by decide +kernel
theorem dL_isPage_119 : decode cL_isPage 119 = .ok (.iconst 0, 1) := by decide +kernel
theorem dL_isPage_120 : decode cL_isPage 120 = .ok (.istore 11, 2) := by decide +kernel
theorem dL_isPage_122 : decode cL_isPage 122 = .ok (.bipush 20, 2) := by decide +kernel
theorem dL_isPage_124 : decode cL_isPage 124 = .ok (.iload 4, 2) := by decide +kernel
theorem dL_isPage_126 : decode cL_isPage 126 = .ok (.imul, 1) := by decide +kernel
theorem dL_isPage_127 : decode cL_isPage 127 = .ok (.istore 12, 2) := by decide +kernel
theorem dL_isPage_129 : decode cL_isPage 129 = .ok (.iload 12, 2) := by decide +kernel
theorem dL_isPage_131 : decode cL_isPage 131 = .ok (.bipush 20, 2) := by decide +kernel
theorem dL_isPage_133 : decode cL_isPage 133 = .ok (.iload 4, 2) := by decide +kernel
theorem dL_isPage_135 : decode cL_isPage 135 = .ok (.imul, 1) := by decide +kernel
theorem dL_isPage_136 : decode cL_isPage 136 = .ok (.bipush 20, 2) := by decide +kernel
theorem dL_isPage_138 : decode cL_isPage 138 = .ok (.iadd, 1) := by decide +kernel
theorem dL_isPage_139 : decode cL_isPage 139 = .ok (.if_icmp .ge 123, 3) := by decide +kernel
theorem dL_isPage_142 : decode cL_isPage 142 = .ok (.iload 11, 2) := by decide +kernel
theorem dL_isPage_144 : decode cL_isPage 144 = .ok (.ifCond .eq 118, 3) := by decide +kernel
theorem dL_isPage_147 : decode cL_isPage 147 = .ok (.aload_n 0, 1) := by decide +kernel
theorem dL_isPage_148 : decode cL_isPage 148 = .ok (.iload 4, 2) := by decide +kernel
theorem dL_isPage_150 : decode cL_isPage 150 = .ok (.iload 12, 2) := by decide +kernel
theorem dL_isPage_152 : decode cL_isPage 152 = .ok (.bipush 20, 2) := by decide +kernel
theorem dL_isPage_154 : decode cL_isPage 154 = .ok (.irem, 1) := by decide +kernel
theorem dL_isPage_155 : decode cL_isPage 155 = .ok (.invokevirtual 51, 3) := by decide +kernel
theorem dL_isPage_158 : decode cL_isPage 158 = .ok (.istore 13, 2) := by decide +kernel
theorem dL_isPage_160 : decode cL_isPage 160 = .ok (.aload_n 1, 1) := by decide +kernel
theorem dL_isPage_161 : decode cL_isPage 161 = .ok (.iload 12, 2) := by decide +kernel
theorem dL_isPage_163 : decode cL_isPage 163 = .ok (.iaload, 1) := by decide +kernel
theorem dL_isPage_164 : decode cL_isPage 164 = .ok (.ifCond .ge 7, 3) := by decide +kernel
theorem dL_isPage_167 : decode cL_isPage 167 = .ok (.iconst (-1), 1) := by decide +kernel
theorem dL_isPage_168 : decode cL_isPage 168 = .ok (.goto 11, 3) := by decide +kernel
theorem dL_isPage_171 : decode cL_isPage 171 = .ok (.aload_n 1, 1) := by decide +kernel
theorem dL_isPage_172 : decode cL_isPage 172 = .ok (.iload 12, 2) := by decide +kernel
theorem dL_isPage_174 : decode cL_isPage 174 = .ok (.iaload, 1) := by decide +kernel
theorem dL_isPage_175 : decode cL_isPage 175 = .ok (.sipush 1023, 3) := by decide +kernel
theorem dL_isPage_178 : decode cL_isPage 178 = .ok (.iand, 1) := by decide +kernel
theorem dL_isPage_179 : decode cL_isPage 179 = .ok (.istore 14, 2) := by decide +kernel
theorem dL_isPage_181 : decode cL_isPage 181 = .ok (.aload_n 2, 1) := by decide +kernel
theorem dL_isPage_182 : decode cL_isPage 182 = .ok (.iload 12, 2) := by decide +kernel
theorem dL_isPage_184 : decode cL_isPage 184 = .ok (.iaload, 1) := by decide +kernel
theorem dL_isPage_185 : decode cL_isPage 185 = .ok (.ifCond .ge 7, 3) := by decide +kernel
theorem dL_isPage_188 : decode cL_isPage 188 = .ok (.iconst (-1), 1) := by decide +kernel
theorem dL_isPage_189 : decode cL_isPage 189 = .ok (.goto 11, 3) := by decide +kernel
theorem dL_isPage_192 : decode cL_isPage 192 = .ok (.aload_n 2, 1) := by decide +kernel
theorem dL_isPage_193 : decode cL_isPage 193 = .ok (.iload 12, 2) := by decide +kernel
theorem dL_isPage_195 : decode cL_isPage 195 = .ok (.iaload, 1) := by decide +kernel
theorem dL_isPage_196 : decode cL_isPage 196 = .ok (.sipush 1023, 3) := by decide +kernel
theorem dL_isPage_199 : decode cL_isPage 199 = .ok (.iand, 1) := by decide +kernel
theorem dL_isPage_200 : decode cL_isPage 200 = .ok (.istore 15, 2) := by decide +kernel
theorem dL_isPage_202 : decode cL_isPage 202 = .ok (.iload 13, 2) := by decide +kernel
theorem dL_isPage_204 : decode cL_isPage 204 = .ok (.iload 14, 2) := by decide +kernel
theorem dL_isPage_206 : decode cL_isPage 206 = .ok (.if_icmp .eq 26, 3) := by decide +kernel
theorem dL_isPage_209 : decode cL_isPage 209 = .ok (.iload 13, 2) := by decide +kernel
theorem dL_isPage_211 : decode cL_isPage 211 = .ok (.iload 15, 2) := by decide +kernel
theorem dL_isPage_213 : decode cL_isPage 213 = .ok (.if_icmp .eq 19, 3) := by decide +kernel
theorem dL_isPage_216 : decode cL_isPage 216 = .ok (.iload 9, 2) := by decide +kernel
theorem dL_isPage_218 : decode cL_isPage 218 = .ok (.ifCond .eq 18, 3) := by decide +kernel
theorem dL_isPage_221 : decode cL_isPage 221 = .ok (.iload 10, 2) := by decide +kernel
theorem dL_isPage_223 : decode cL_isPage 223 = .ok (.ifCond .eq 13, 3) := by decide +kernel
theorem dL_isPage_226 : decode cL_isPage 226 = .ok (.iload 13, 2) := by decide +kernel
theorem dL_isPage_228 : decode cL_isPage 228 = .ok (.iconst (-1), 1) := by decide +kernel
theorem dL_isPage_229 : decode cL_isPage 229 = .ok (.if_icmp .ne 7, 3) := by decide +kernel
theorem dL_isPage_232 : decode cL_isPage 232 = .ok (.iconst 1, 1) := by decide +kernel
theorem dL_isPage_233 : decode cL_isPage 233 = .ok (.goto 4, 3) := by decide +kernel
theorem dL_isPage_236 : decode cL_isPage 236 = .ok (.iconst 0, 1) := by decide +kernel
theorem dL_isPage_237 : decode cL_isPage 237 = .ok (.istore 11, 2) := by decide +kernel
theorem dL_isPage_239 : decode cL_isPage 239 = .ok (.iload 8, 2) := by decide +kernel
theorem dL_isPage_241 : decode cL_isPage 241 = .ok (.iload 13, 2) := by decide +kernel
theorem dL_isPage_243 : decode cL_isPage 243 = .ok (.iload 15, 2) := by decide +kernel
theorem dL_isPage_245 : decode cL_isPage 245 = .ok (.if_icmp .eq 7, 3) := by decide +kernel
theorem dL_isPage_248 : decode cL_isPage 248 = .ok (.iconst 1, 1) := by decide +kernel
theorem dL_isPage_249 : decode cL_isPage 249 = .ok (.goto 4, 3) := by decide +kernel
theorem dL_isPage_252 : decode cL_isPage 252 = .ok (.iconst 0, 1) := by decide +kernel
theorem dL_isPage_253 : decode cL_isPage 253 = .ok (.iadd, 1) := by decide +kernel
theorem dL_isPage_254 : decode cL_isPage 254 = .ok (.istore 8, 2) := by decide +kernel
theorem dL_isPage_256 : decode cL_isPage 256 = .ok (.iinc 12 1, 3) := by decide +kernel
theorem dL_isPage_259 : decode cL_isPage 259 = .ok (.goto (-130), 3) := by decide +kernel
theorem dL_isPage_262 : decode cL_isPage 262 = .ok (.iload 11, 2) := by decide +kernel
theorem dL_isPage_264 : decode cL_isPage 264 = .ok (.ifCond .eq 75, 3) := by decide +kernel
theorem dL_isPage_267 : decode cL_isPage 267 = .ok (.iload 9, 2) := by decide +kernel
theorem dL_isPage_269 : decode cL_isPage 269 = .ok (.ifCond .eq 8, 3) := by decide +kernel
theorem dL_isPage_272 : decode cL_isPage 272 = .ok (.iload 10, 2) := by decide +kernel
theorem dL_isPage_274 : decode cL_isPage 274 = .ok (.ifCond .ne 10, 3) := by decide +kernel
theorem dL_isPage_277 : decode cL_isPage 277 = .ok (.iload 8, 2) := by decide +kernel
theorem dL_isPage_279 : decode cL_isPage 279 = .ok (.iload 7, 2) := by decide +kernel
theorem dL_isPage_281 : decode cL_isPage 281 = .ok (.if_icmp .gt 58, 3) := by decide +kernel
theorem dL_isPage_284 : decode cL_isPage 284 = .ok (.iload 9, 2) := by decide +kernel
theorem dL_isPage_286 : decode cL_isPage 286 = .ok (.ifCond .ne 14, 3) := by decide +kernel
theorem dL_isPage_289 : decode cL_isPage 289 = .ok (.aload_n 0, 1) := by decide +kernel
theorem dL_isPage_290 : decode cL_isPage 290 = .ok (.iload 4, 2) := by decide +kernel
theorem dL_isPage_292 : decode cL_isPage 292 = .ok (.invokevirtual 48, 3) := by decide +kernel
theorem dL_isPage_295 : decode cL_isPage 295 = .ok (.iload 5, 2) := by decide +kernel
theorem dL_isPage_297 : decode cL_isPage 297 = .ok (.if_icmp .ne 42, 3) := by decide +kernel
theorem dL_isPage_300 : decode cL_isPage 300 = .ok (.iload 9, 2) := by decide +kernel
theorem dL_isPage_302 : decode cL_isPage 302 = .ok (.ifCond .eq 8, 3) := by decide +kernel
theorem dL_isPage_305 : decode cL_isPage 305 = .ok (.iload 10, 2) := by decide +kernel
theorem dL_isPage_307 : decode cL_isPage 307 = .ok (.ifCond .ne 28, 3) := by decide +kernel
theorem dL_isPage_310 : decode cL_isPage 310 = .ok (.aload_n 0, 1) := by decide +kernel
theorem dL_isPage_311 : decode cL_isPage 311 = .ok (.iload 4, 2) := by decide +kernel
theorem dL_isPage_313 : decode cL_isPage 313 = .ok (.invokevirtual 58, 3) := by decide +kernel
theorem dL_isPage_316 : decode cL_isPage 316 = .ok (.iload 6, 2) := by decide +kernel
theorem dL_isPage_318 : decode cL_isPage 318 = .ok (.if_icmp .gt 21, 3) := by decide +kernel
theorem dL_isPage_321 : decode cL_isPage 321 = .ok (.aload_n 0, 1) := by decide +kernel
theorem dL_isPage_322 : decode cL_isPage 322 = .ok (.iload 4, 2) := by decide +kernel
theorem dL_isPage_324 : decode cL_isPage 324 = .ok (.invokevirtual 58, 3) := by decide +kernel
theorem dL_isPage_327 : decode cL_isPage 327 = .ok (.iload 6, 2) := by decide +kernel
theorem dL_isPage_329 : decode cL_isPage 329 = .ok (.iload 7, 2) := by decide +kernel
theorem dL_isPage_331 : decode cL_isPage 331 = .ok (.isub, 1) := by decide +kernel
theorem dL_isPage_332 : decode cL_isPage 332 = .ok (.if_icmp .lt 7, 3) := by decide +kernel
theorem dL_isPage_335 : decode cL_isPage 335 = .ok (.iconst 1, 1) := by decide +kernel
theorem dL_isPage_336 : decode cL_isPage 336 = .ok (.goto 4, 3) := by decide +kernel
theorem dL_isPage_339 : decode cL_isPage 339 = .ok (.iconst 0, 1) := by decide +kernel
theorem dL_isPage_340 : decode cL_isPage 340 = .ok (.istore 11, 2) := by decide +kernel
theorem dL_isPage_342 : decode cL_isPage 342 = .ok (.aload_n 3, 1) := by decide +kernel
theorem dL_isPage_343 : decode cL_isPage 343 = .ok (.iconst 4, 1) := by decide +kernel
theorem dL_isPage_344 : decode cL_isPage 344 = .ok (.iload 4, 2) := by decide +kernel
theorem dL_isPage_346 : decode cL_isPage 346 = .ok (.imul, 1) := by decide +kernel
theorem dL_isPage_347 : decode cL_isPage 347 = .ok (.iconst 2, 1) := by decide +kernel
theorem dL_isPage_348 : decode cL_isPage 348 = .ok (.iadd, 1) := by decide +kernel
theorem dL_isPage_349 : decode cL_isPage 349 = .ok (.iload 9, 2) := by decide +kernel
theorem dL_isPage_351 : decode cL_isPage 351 = .ok (.ifCond .eq 7, 3) := by decide +kernel
theorem dL_isPage_354 : decode cL_isPage 354 = .ok (.iconst 0, 1) := by decide +kernel
theorem dL_isPage_355 : decode cL_isPage 355 = .ok (.goto 11, 3) := by decide +kernel
theorem dL_isPage_358 : decode cL_isPage 358 = .ok (.aload_n 3, 1) := by decide +kernel
theorem dL_isPage_359 : decode cL_isPage 359 = .ok (.iconst 4, 1) := by decide +kernel
theorem dL_isPage_360 : decode cL_isPage 360 = .ok (.iload 4, 2) := by decide +kernel
theorem dL_isPage_362 : decode cL_isPage 362 = .ok (.imul, 1) := by decide +kernel
theorem dL_isPage_363 : decode cL_isPage 363 = .ok (.iconst 2, 1) := by decide +kernel
theorem dL_isPage_364 : decode cL_isPage 364 = .ok (.iadd, 1) := by decide +kernel
theorem dL_isPage_365 : decode cL_isPage 365 = .ok (.iaload, 1) := by decide +kernel
theorem dL_isPage_366 : decode cL_isPage 366 = .ok (.iastore, 1) := by decide +kernel
theorem dL_isPage_367 : decode cL_isPage 367 = .ok (.iload 11, 2) := by decide +kernel
theorem dL_isPage_369 : decode cL_isPage 369 = .ok (.ireturn, 1) := by decide +kernel
set_option maxRecDepth 20000 in
theorem ggL_isKnown_L_isRound : GoodIn wsL_isKnown wsL_isRound := goodIn_ca (goodIn_ca (goodIn_r _ [4, 5, 6, 7, 8, 9, 10, 11, 12, 13, 14, 15, 16, 17, 18, 19, 3, 20, 21, 22, 23, 24, 25, 26, 27, 28, 29, 30, 31, 32, 33, 34, 35, 36, 37, 38, 39, 40, 41, 42, 43, 44, 45, 46, 47, 48, 49, 50, 51, 52, 53, 54, 55, 56, 57, 58, 59, 60, 61, 62, 63, 64, 65, 66, 67, 68, 69, 70, 71, 72, 73, 74, 75, 76, 77, 78, 79, 80, 81, 82, 83, 84, 85, 86, 87, 88, 89, 90, 91, 92, 93, 94, 95, 96, 97, 98, 99, 100, 101, 102, 103, 104, 105, 106, 107, 108, 109, 110, 111, 112, 113, 114, 115, 116, 117, 118, 119, 120, 121, 122, 123, 124, 125, 126, 127, 128, 129, 130, 131, 132, 133, 134, 147, 148, 149, 150, 151, 152, 153, 154, 155, 156, 157, 158, 159, 160, 161, 162, 163, 164, 165, 166, 167, 168] (by decide +kernel) (by decide +kernel)) (goodIn_sub (fun _ h => List.mem_cons_of_mem _ (List.mem_append_left _ (List.mem_append_right _ h))) (by decide +kernel))) (goodIn_sub (fun _ h => List.mem_cons_of_mem _ (List.mem_append_right _ h)) (by decide +kernel))
set_option maxRecDepth 20000 in
theorem gL_isKnown_L_isRound : GoodIn wsL_isKnown (va_wsS RL 99 yL_isRound wsL_isRound) := goodIn_app (goodIn_of _ (by decide +kernel)) ggL_isKnown_L_isRound
set_option maxRecDepth 20000 in
theorem ggL_isKnown_X3_held : GoodIn wsL_isKnown wsX3_held := goodIn_ca (goodIn_r _ [138, 124, 11, 12, 13, 8, 14, 15, 16, 17, 139, 140, 141, 93, 142, 95, 147, 148, 149, 150, 151, 152, 153, 154, 155, 156, 157, 158, 165, 166, 167, 168] (by decide +kernel) (by decide +kernel)) (goodIn_sub (fun _ h => List.mem_cons_of_mem _ (List.mem_append_left _ (List.mem_append_right _ h))) (by decide +kernel))
set_option maxRecDepth 20000 in
theorem gL_isKnown_X3_held : GoodIn wsL_isKnown (wsV RL 55 RX3 yX3_held wsX3_held) := goodIn_app (goodIn_of _ (by decide +kernel)) ggL_isKnown_X3_held
set_option maxRecDepth 20000 in
theorem ggL_isKnown_X3_far : GoodIn wsL_isKnown wsX3_far := goodIn_ca (goodIn_r _ [146, 125, 126, 11, 12, 13, 8, 14, 15, 16, 17, 139, 140, 141, 93, 142, 95, 147, 148, 149, 150, 151, 152, 153, 154, 155, 156, 159, 160, 161, 162, 163, 164, 157, 158, 165, 166, 167, 168] (by decide +kernel) (by decide +kernel)) (goodIn_sub (fun _ h => List.mem_cons_of_mem _ (List.mem_append_left _ (List.mem_append_right _ h))) (by decide +kernel))
set_option maxRecDepth 20000 in
theorem gL_isKnown_X3_far : GoodIn wsL_isKnown (wsV RL 27 RX3 yX3_far wsX3_far) := goodIn_app (goodIn_of _ (by decide +kernel)) ggL_isKnown_X3_far
theorem dL_isKnown_0 : decode cL_isKnown 0 = .ok (.aload_n 0, 1) := by decide +kernel
theorem dL_isKnown_1 : decode cL_isKnown 1 = .ok (.aload_n 1, 1) := by decide +kernel
theorem dL_isKnown_2 : decode cL_isKnown 2 = .ok (.aload_n 2, 1) := by decide +kernel
theorem dL_isKnown_3 : decode cL_isKnown 3 = .ok (.aload_n 3, 1) := by decide +kernel
theorem dL_isKnown_4 : decode cL_isKnown 4 = .ok (.iload 4, 2) := by decide +kernel
theorem dL_isKnown_6 : decode cL_isKnown 6 = .ok (.iconst 1, 1) := by decide +kernel
theorem dL_isKnown_7 : decode cL_isKnown 7 = .ok (.invokestatic 99, 3) := by decide +kernel
theorem dL_isKnown_10 : decode cL_isKnown 10 = .ok (.ifCond .eq 22, 3) := by decide +kernel
theorem dL_isKnown_13 : decode cL_isKnown 13 = .ok (.aload_n 0, 1) := by decide +kernel
theorem dL_isKnown_14 : decode cL_isKnown 14 = .ok (.iload 4, 2) := by decide +kernel
theorem dL_isKnown_16 : decode cL_isKnown 16 = .ok (.invokevirtual 55, 3) := by decide +kernel
theorem dL_isKnown_19 : decode cL_isKnown 19 = .ok (.aload_n 0, 1) := by decide +kernel
theorem dL_isKnown_20 : decode cL_isKnown 20 = .ok (.iload 4, 2) := by decide +kernel
theorem dL_isKnown_22 : decode cL_isKnown 22 = .ok (.invokevirtual 27, 3) := by decide +kernel
theorem dL_isKnown_25 : decode cL_isKnown 25 = .ok (.if_icmp .ne 7, 3) := by decide +kernel
theorem dL_isKnown_28 : decode cL_isKnown 28 = .ok (.iconst 1, 1) := by decide +kernel
theorem dL_isKnown_29 : decode cL_isKnown 29 = .ok (.goto 4, 3) := by decide +kernel
theorem dL_isKnown_32 : decode cL_isKnown 32 = .ok (.iconst 0, 1) := by decide +kernel
theorem dL_isKnown_33 : decode cL_isKnown 33 = .ok (.ireturn, 1) := by decide +kernel
set_option maxRecDepth 20000 in
theorem ggL_law_X3_init : GoodIn wsL_law wsX3_init := goodIn_r _ [6, 7, 8, 9, 10, 11, 12, 13, 14, 15, 16, 17, 18, 19, 20, 21, 22, 23, 24, 25, 26, 27, 28, 29, 30, 31, 32, 33, 34, 35, 36, 37, 38, 39, 40, 3, 41, 42, 43, 44, 45, 46, 47, 48, 49, 50, 51, 287, 288, 289, 290, 291, 292, 293, 294, 295, 296, 297, 298, 299, 300, 301, 302, 303, 304, 305, 306, 307, 308] (by decide +kernel) (by decide +kernel)
set_option maxRecDepth 20000 in
theorem gL_law_X3_init : GoodIn wsL_law (wsX3_init) := ggL_law_X3_init
set_option maxRecDepth 20000 in
theorem ggL_law_L_isRefused : GoodIn wsL_law wsL_isRefused := goodIn_ca (goodIn_ca (goodIn_r _ [55, 56, 57, 54, 58, 59, 60, 61, 62, 63, 64, 65, 66, 67, 2, 68, 14, 69, 70, 71, 72, 73, 74, 75, 76, 77, 78, 79, 80, 11, 81, 82, 83, 24, 84, 48, 85, 86, 87, 88, 89, 90, 91, 20, 92, 40, 93, 94, 95, 96, 97, 98, 99, 100, 101, 102, 103, 104, 105, 106, 107, 108, 109, 49, 50, 51, 110, 111, 112, 113, 114, 115, 116, 117, 118, 119, 120, 121, 122, 123, 124, 125, 126, 127, 128, 129, 130, 131, 132, 133, 134, 135, 136, 137, 42, 44, 138, 139, 140, 141, 142, 143, 144, 145, 146, 147, 148, 39, 149, 150, 151, 152, 43, 153, 154, 155, 156, 157, 158, 159, 160, 161, 162, 163, 164, 165, 166, 167, 41, 168, 169, 170, 171, 172, 173, 174, 175, 176, 177, 178, 179, 180, 181, 182, 183, 184, 185, 13, 186, 27, 28, 29, 30, 31, 32, 34, 187, 188, 189, 190, 26, 191, 192, 193, 194, 195, 196, 197, 198, 199, 200, 201, 202, 203, 21, 204, 205, 206, 207, 208, 209, 210, 211, 212, 213, 214, 215, 216, 217, 218, 219, 220, 25, 221, 222, 223, 224, 225, 226, 227, 228, 229, 230, 231, 232, 233, 234, 235, 236, 237, 238, 239, 240, 241, 242, 243, 244, 245, 246, 247, 248, 249, 250, 251, 252, 253, 254, 255, 256, 257, 287, 288, 289, 290, 291, 292, 293, 294, 295, 296, 297, 298, 299, 300, 301, 302, 303, 304, 305, 306, 307, 308] (by decide +kernel) (by decide +kernel)) (goodIn_sub (fun _ h => List.mem_append_left _ (List.mem_append_right _ h)) (by decide +kernel))) (goodIn_sub (fun _ h => List.mem_append_right _ h) (by decide +kernel))
set_option maxRecDepth 20000 in
theorem gL_law_L_isRefused : GoodIn wsL_law (va_wsS RL 104 yL_isRefused wsL_isRefused) := goodIn_app (goodIn_of _ (by decide +kernel)) ggL_law_L_isRefused
set_option maxRecDepth 20000 in
theorem ggL_law_L_dice : GoodIn wsL_law wsL_dice := goodIn_r _ [260, 261, 262] (by decide +kernel) (by decide +kernel)
set_option maxRecDepth 20000 in
theorem gL_law_L_dice : GoodIn wsL_law (va_wsS RL 108 yL_dice wsL_dice) := goodIn_app (goodIn_of _ (by decide +kernel)) ggL_law_L_dice
set_option maxRecDepth 20000 in
theorem ggL_law_X3_today : GoodIn wsL_law wsX3_today := goodIn_r _ [68, 14, 287, 288] (by decide +kernel) (by decide +kernel)
set_option maxRecDepth 20000 in
theorem gL_law_X3_today : GoodIn wsL_law (wsV RL 67 RX3 yX3_today wsX3_today) := goodIn_app (goodIn_of _ (by decide +kernel)) ggL_law_X3_today
set_option maxRecDepth 20000 in
theorem ggL_law_L_clear : GoodIn wsL_law wsL_clear := goodIn_r _ [265] (by decide +kernel) (by decide +kernel)
set_option maxRecDepth 20000 in
theorem gL_law_L_clear : GoodIn wsL_law (va_wsS RL 112 yL_clear wsL_clear) := goodIn_app (goodIn_of _ (by decide +kernel)) ggL_law_L_clear
set_option maxRecDepth 20000 in
theorem ggL_law_L_far : GoodIn wsL_law wsL_far := goodIn_ca (goodIn_ca (goodIn_r _ [122, 123, 124, 125, 126, 127, 2, 128, 73, 129, 130, 14, 75, 76, 77, 78, 79, 80, 11, 131, 132, 133, 134, 135, 136, 20, 137, 42, 44, 40, 138, 139, 140, 141, 142, 143, 144, 145, 146, 147, 148, 39, 149, 150, 151, 152, 43, 153, 154, 155, 24, 156, 48, 49, 50, 51, 157, 158, 159, 160, 161, 162, 74, 163, 164, 165, 166, 167, 41, 168, 169, 170, 171, 172, 173, 174, 175, 69, 70, 71, 72, 81, 82, 83, 84, 85, 86, 87, 88, 89, 90, 91, 92, 289, 290, 291, 292, 293, 294, 295, 296, 297, 298, 299, 300, 301, 302, 303, 304, 287, 288, 305, 306, 307, 308] (by decide +kernel) (by decide +kernel)) (goodIn_sub (fun _ h => List.mem_append_left _ (List.mem_append_right _ h)) (by decide +kernel))) (goodIn_sub (fun _ h => List.mem_append_right _ h) (by decide +kernel))
set_option maxRecDepth 20000 in
theorem gL_law_L_far : GoodIn wsL_law (va_wsS RL 92 yL_far wsL_far) := goodIn_app (goodIn_of _ (by decide +kernel)) ggL_law_L_far
set_option maxRecDepth 20000 in
theorem ggL_law_L_isPut : GoodIn wsL_law wsL_isPut := goodIn_ca (goodIn_r _ [268, 65, 66, 67, 2, 68, 14, 138, 139, 140, 141, 73, 75, 76, 77, 78, 79, 80, 11, 142, 143, 144, 131, 132, 133, 145, 146, 147, 20, 148, 39, 40, 149, 150, 151, 152, 43, 153, 154, 155, 24, 156, 48, 49, 50, 51, 287, 288, 289, 290, 291, 292, 293, 294, 295, 296, 297, 298, 299, 300, 301, 302, 303, 304, 305, 306, 307, 308] (by decide +kernel) (by decide +kernel)) (goodIn_sub (fun _ h => List.mem_append_left _ (List.mem_append_right _ h)) (by decide +kernel))
set_option maxRecDepth 20000 in
theorem gL_law_L_isPut : GoodIn wsL_law (va_wsS RL 116 yL_isPut wsL_isPut) := goodIn_app (goodIn_of _ (by decide +kernel)) ggL_law_L_isPut
set_option maxRecDepth 20000 in
theorem ggL_law_L_isRemoved : GoodIn wsL_law wsL_isRemoved := goodIn_ca (goodIn_ca (goodIn_r _ [271, 120, 121, 54, 122, 123, 124, 125, 126, 127, 2, 128, 73, 129, 130, 14, 75, 76, 77, 78, 79, 80, 11, 131, 132, 133, 134, 135, 136, 20, 137, 42, 44, 40, 138, 139, 140, 141, 142, 143, 144, 145, 146, 147, 148, 39, 149, 150, 151, 152, 43, 153, 154, 155, 24, 156, 48, 49, 50, 51, 157, 158, 159, 160, 161, 162, 74, 163, 164, 165, 166, 167, 41, 168, 169, 170, 171, 172, 173, 174, 175, 69, 70, 71, 72, 81, 82, 83, 84, 85, 86, 87, 88, 89, 90, 91, 92, 65, 66, 67, 68, 289, 290, 291, 292, 293, 294, 295, 296, 297, 298, 299, 300, 301, 302, 303, 304, 287, 288, 305, 306, 307, 308] (by decide +kernel) (by decide +kernel)) (goodIn_sub (fun _ h => List.mem_append_left _ (List.mem_append_right _ h)) (by decide +kernel))) (goodIn_sub (fun _ h => List.mem_append_right _ h) (by decide +kernel))
set_option maxRecDepth 20000 in
theorem gL_law_L_isRemoved : GoodIn wsL_law (va_wsS RL 120 yL_isRemoved wsL_isRemoved) := goodIn_app (goodIn_of _ (by decide +kernel)) ggL_law_L_isRemoved
set_option maxRecDepth 20000 in
theorem ggL_law_L_isRound : GoodIn wsL_law wsL_isRound := goodIn_ca (goodIn_ca (goodIn_r _ [274, 110, 111, 112, 2, 113, 114, 75, 76, 77, 78, 79, 80, 11, 275, 276, 54, 277, 179, 180, 181, 182, 14, 183, 184, 185, 13, 186, 27, 28, 29, 30, 31, 32, 34, 187, 188, 189, 190, 26, 115, 116, 117, 118, 119, 191, 192, 193, 194, 161, 162, 195, 196, 197, 198, 199, 200, 201, 202, 203, 21, 204, 205, 206, 207, 20, 208, 209, 210, 211, 212, 39, 213, 214, 40, 41, 215, 216, 217, 218, 219, 220, 25, 221, 222, 223, 224, 225, 154, 155, 24, 156, 48, 49, 50, 51, 226, 169, 170, 171, 227, 228, 229, 230, 231, 150, 151, 152, 43, 232, 233, 234, 235, 65, 66, 67, 68, 98, 99, 100, 101, 97, 73, 74, 102, 103, 104, 105, 106, 107, 108, 109, 289, 290, 291, 292, 293, 294, 295, 296, 297, 298, 287, 288, 299, 300, 301, 302, 303, 304, 305, 306, 307, 308] (by decide +kernel) (by decide +kernel)) (goodIn_sub (fun _ h => List.mem_append_left _ (List.mem_append_right _ h)) (by decide +kernel))) (goodIn_sub (fun _ h => List.mem_append_right _ h) (by decide +kernel))
set_option maxRecDepth 20000 in
theorem gL_law_L_isRound : GoodIn wsL_law (va_wsS RL 99 yL_isRound wsL_isRound) := goodIn_app (goodIn_of _ (by decide +kernel)) ggL_law_L_isRound
set_option maxRecDepth 20000 in
theorem ggL_law_X3_mark : GoodIn wsL_law wsX3_mark := goodIn_ca (goodIn_r _ [113, 114, 75, 76, 77, 2, 78, 79, 80, 11, 289, 290, 291, 292, 293, 294, 295, 296, 297, 298, 287, 288] (by decide +kernel) (by decide +kernel)) (goodIn_sub (fun _ h => List.mem_append_left _ (List.mem_append_right _ h)) (by decide +kernel))
set_option maxRecDepth 20000 in
theorem gL_law_X3_mark : GoodIn wsL_law (wsV RL 48 RX3 yX3_mark wsX3_mark) := goodIn_app (goodIn_of _ (by decide +kernel)) ggL_law_X3_mark
set_option maxRecDepth 20000 in
theorem ggL_law_X3_open : GoodIn wsL_law wsX3_open := goodIn_ca (goodIn_r _ [182, 14, 75, 76, 77, 2, 78, 79, 80, 11, 183, 184, 185, 13, 186, 27, 28, 29, 30, 31, 32, 34, 187, 188, 189, 190, 26, 287, 288, 289, 290, 291, 292, 293, 294, 295, 296, 297, 298] (by decide +kernel) (by decide +kernel)) (goodIn_sub (fun _ h => List.mem_append_left _ (List.mem_append_right _ h)) (by decide +kernel))
set_option maxRecDepth 20000 in
theorem gL_law_X3_open : GoodIn wsL_law (wsV RL 37 RX3 yX3_open wsX3_open) := goodIn_app (goodIn_of _ (by decide +kernel)) ggL_law_X3_open
set_option maxRecDepth 20000 in
theorem ggL_law_L_isPage : GoodIn wsL_law wsL_isPage := goodIn_ca (goodIn_ca (goodIn_r _ [280, 176, 177, 54, 178, 123, 124, 179, 180, 181, 2, 182, 14, 75, 76, 77, 78, 79, 80, 11, 183, 184, 185, 13, 186, 27, 28, 29, 30, 31, 32, 34, 187, 188, 189, 190, 26, 191, 192, 193, 194, 161, 162, 119, 195, 196, 197, 198, 199, 200, 201, 202, 203, 21, 204, 205, 206, 207, 20, 208, 209, 210, 211, 212, 39, 213, 214, 40, 41, 215, 216, 217, 218, 219, 220, 25, 221, 222, 223, 224, 225, 154, 155, 24, 156, 48, 49, 50, 51, 226, 169, 170, 171, 227, 228, 229, 230, 231, 150, 151, 152, 43, 232, 233, 234, 235, 115, 116, 117, 118, 110, 111, 112, 113, 114, 236, 237, 238, 239, 97, 163, 240, 142, 143, 144, 131, 132, 133, 93, 94, 95, 96, 81, 82, 83, 84, 98, 99, 100, 101, 73, 74, 102, 103, 104, 105, 106, 107, 108, 109, 241, 242, 243, 244, 245, 246, 247, 248, 249, 250, 251, 252, 253, 254, 255, 256, 257, 287, 288, 289, 290, 291, 292, 293, 294, 295, 296, 297, 298, 299, 300, 301, 302, 303, 304, 305, 306, 307, 308] (by decide +kernel) (by decide +kernel)) (goodIn_sub (fun _ h => List.mem_append_left _ (List.mem_append_right _ h)) (by decide +kernel))) (goodIn_sub (fun _ h => List.mem_append_right _ h) (by decide +kernel))
set_option maxRecDepth 20000 in
theorem gL_law_L_isPage : GoodIn wsL_law (va_wsS RL 124 yL_isPage wsL_isPage) := goodIn_app (goodIn_of _ (by decide +kernel)) ggL_law_L_isPage
set_option maxRecDepth 20000 in
theorem ggL_law_L_isKnown : GoodIn wsL_law wsL_isKnown := goodIn_ca (goodIn_ca (goodIn_r _ [283, 272, 273, 54, 274, 110, 111, 112, 2, 113, 114, 75, 76, 77, 78, 79, 80, 11, 275, 276, 277, 179, 180, 181, 182, 14, 183, 184, 185, 13, 186, 27, 28, 29, 30, 31, 32, 34, 187, 188, 189, 190, 26, 115, 116, 117, 118, 119, 191, 192, 193, 194, 161, 162, 195, 196, 197, 198, 199, 200, 201, 202, 203, 21, 204, 205, 206, 207, 20, 208, 209, 210, 211, 212, 39, 213, 214, 40, 41, 215, 216, 217, 218, 219, 220, 25, 221, 222, 223, 224, 225, 154, 155, 24, 156, 48, 49, 50, 51, 226, 169, 170, 171, 227, 228, 229, 230, 231, 150, 151, 152, 43, 232, 233, 234, 235, 65, 66, 67, 68, 98, 99, 100, 101, 97, 73, 74, 102, 103, 104, 105, 106, 107, 108, 109, 93, 94, 95, 96, 81, 82, 83, 84, 69, 70, 71, 72, 289, 290, 291, 292, 293, 294, 295, 296, 297, 298, 287, 288, 299, 300, 301, 302, 303, 304, 305, 306, 307, 308] (by decide +kernel) (by decide +kernel)) (goodIn_sub (fun _ h => List.mem_append_left _ (List.mem_append_right _ h)) (by decide +kernel))) (goodIn_sub (fun _ h => List.mem_append_right _ h) (by decide +kernel))
set_option maxRecDepth 20000 in
theorem gL_law_L_isKnown : GoodIn wsL_law (va_wsS RL 128 yL_isKnown wsL_isKnown) := goodIn_app (goodIn_of _ (by decide +kernel)) ggL_law_L_isKnown
set_option maxRecDepth 20000 in
theorem ggL_law_L_areAll : GoodIn wsL_law wsL_areAll := goodIn_ca (goodIn_r _ [286, 236, 237, 238, 2, 239, 97, 163, 240, 75, 76, 77, 78, 79, 80, 11, 142, 143, 144, 131, 132, 133, 69, 70, 71, 72, 73, 74, 81, 82, 83, 24, 84, 48, 85, 86, 87, 88, 89, 90, 91, 20, 92, 40, 93, 94, 95, 96, 98, 99, 100, 101, 102, 103, 104, 105, 106, 107, 108, 109, 49, 50, 51, 115, 116, 117, 118, 119, 249, 250, 251, 252, 253, 254, 255, 256, 257, 275, 276, 54, 277, 241, 242, 243, 244, 245, 246, 247, 248, 289, 290, 291, 292, 293, 294, 295, 296, 297, 298, 305, 306, 307, 308, 287, 288, 299, 300, 301, 302, 303, 304] (by decide +kernel) (by decide +kernel)) (goodIn_sub (fun _ h => List.mem_append_left _ (List.mem_append_right _ h)) (by decide +kernel))
set_option maxRecDepth 20000 in
theorem gL_law_L_areAll : GoodIn wsL_law (va_wsS RL 131 yL_areAll wsL_areAll) := goodIn_app (goodIn_of _ (by decide +kernel)) ggL_law_L_areAll
theorem dL_law_0 : decode cL_law 0 = .ok (.new 10, 3) := by decide +kernel
theorem dL_law_3 : decode cL_law 3 = .ok (.dup, 1) := by decide +kernel
theorem dL_law_4 : decode cL_law 4 = .ok (.invokespecial 103, 3) := by decide +kernel
theorem dL_law_7 : decode cL_law 7 = .ok (.astore_n 1, 1) := by decide +kernel
theorem dL_law_8 : decode cL_law 8 = .ok (.bipush 60, 2) := by decide +kernel
theorem dL_law_10 : decode cL_law 10 = .ok (.newarray .int, 2) := by decide +kernel
theorem dL_law_12 : decode cL_law 12 = .ok (.astore_n 2, 1) := by decide +kernel
theorem dL_law_13 : decode cL_law 13 = .ok (.bipush 60, 2) := by decide +kernel
theorem dL_law_15 : decode cL_law 15 = .ok (.newarray .int, 2) := by decide +kernel
theorem dL_law_17 : decode cL_law 17 = .ok (.astore_n 3, 1) := by decide +kernel
theorem dL_law_18 : decode cL_law 18 = .ok (.bipush 60, 2) := by decide +kernel
theorem dL_law_20 : decode cL_law 20 = .ok (.newarray .int, 2) := by decide +kernel
theorem dL_law_22 : decode cL_law 22 = .ok (.astore 4, 2) := by decide +kernel
theorem dL_law_24 : decode cL_law 24 = .ok (.bipush 12, 2) := by decide +kernel
theorem dL_law_26 : decode cL_law 26 = .ok (.newarray .int, 2) := by decide +kernel
theorem dL_law_28 : decode cL_law 28 = .ok (.astore 5, 2) := by decide +kernel
theorem dL_law_30 : decode cL_law 30 = .ok (.iconst 0, 1) := by decide +kernel
theorem dL_law_31 : decode cL_law 31 = .ok (.istore 6, 2) := by decide +kernel
theorem dL_law_33 : decode cL_law 33 = .ok (.iload 6, 2) := by decide +kernel
theorem dL_law_35 : decode cL_law 35 = .ok (.bipush 60, 2) := by decide +kernel
theorem dL_law_37 : decode cL_law 37 = .ok (.if_icmp .ge 19, 3) := by decide +kernel
theorem dL_law_40 : decode cL_law 40 = .ok (.aload_n 2, 1) := by decide +kernel
theorem dL_law_41 : decode cL_law 41 = .ok (.iload 6, 2) := by decide +kernel
theorem dL_law_43 : decode cL_law 43 = .ok (.iconst (-1), 1) := by decide +kernel
theorem dL_law_44 : decode cL_law 44 = .ok (.iastore, 1) := by decide +kernel
theorem dL_law_45 : decode cL_law 45 = .ok (.aload_n 3, 1) := by decide +kernel
theorem dL_law_46 : decode cL_law 46 = .ok (.iload 6, 2) := by decide +kernel
theorem dL_law_48 : decode cL_law 48 = .ok (.iconst (-1), 1) := by decide +kernel
theorem dL_law_49 : decode cL_law 49 = .ok (.iastore, 1) := by decide +kernel
theorem dL_law_50 : decode cL_law 50 = .ok (.iinc 6 1, 3) := by decide +kernel
theorem dL_law_53 : decode cL_law 53 = .ok (.goto (-20), 3) := by decide +kernel
theorem dL_law_56 : decode cL_law 56 = .ok (.iconst 0, 1) := by decide +kernel
theorem dL_law_57 : decode cL_law 57 = .ok (.istore 6, 2) := by decide +kernel
theorem dL_law_59 : decode cL_law 59 = .ok (.iload 6, 2) := by decide +kernel
theorem dL_law_61 : decode cL_law 61 = .ok (.iconst 3, 1) := by decide +kernel
theorem dL_law_62 : decode cL_law 62 = .ok (.if_icmp .ge 17, 3) := by decide +kernel
theorem dL_law_65 : decode cL_law 65 = .ok (.aload 5, 2) := by decide +kernel
theorem dL_law_67 : decode cL_law 67 = .ok (.iconst 4, 1) := by decide +kernel
theorem dL_law_68 : decode cL_law 68 = .ok (.iload 6, 2) := by decide +kernel
theorem dL_law_70 : decode cL_law 70 = .ok (.imul, 1) := by decide +kernel
theorem dL_law_71 : decode cL_law 71 = .ok (.iconst 1, 1) := by decide +kernel
theorem dL_law_72 : decode cL_law 72 = .ok (.iastore, 1) := by decide +kernel
theorem dL_law_73 : decode cL_law 73 = .ok (.iinc 6 1, 3) := by decide +kernel
theorem dL_law_76 : decode cL_law 76 = .ok (.goto (-17), 3) := by decide +kernel
theorem dL_law_79 : decode cL_law 79 = .ok (.aload_n 1, 1) := by decide +kernel
theorem dL_law_80 : decode cL_law 80 = .ok (.aload_n 2, 1) := by decide +kernel
theorem dL_law_81 : decode cL_law 81 = .ok (.aload 5, 2) := by decide +kernel
theorem dL_law_83 : decode cL_law 83 = .ok (.iconst 0, 1) := by decide +kernel
theorem dL_law_84 : decode cL_law 84 = .ok (.invokestatic 104, 3) := by decide +kernel
theorem dL_law_87 : decode cL_law 87 = .ok (.ifCond .eq 18, 3) := by decide +kernel
theorem dL_law_90 : decode cL_law 90 = .ok (.aload_n 1, 1) := by decide +kernel
theorem dL_law_91 : decode cL_law 91 = .ok (.aload_n 2, 1) := by decide +kernel
theorem dL_law_92 : decode cL_law 92 = .ok (.aload 5, 2) := by decide +kernel
theorem dL_law_94 : decode cL_law 94 = .ok (.iconst 5, 1) := by decide +kernel
theorem dL_law_95 : decode cL_law 95 = .ok (.invokestatic 104, 3) := by decide +kernel
theorem dL_law_98 : decode cL_law 98 = .ok (.ifCond .eq 7, 3) := by decide +kernel
theorem dL_law_101 : decode cL_law 101 = .ok (.iconst 1, 1) := by decide +kernel
theorem dL_law_102 : decode cL_law 102 = .ok (.goto 4, 3) := by decide +kernel
theorem dL_law_105 : decode cL_law 105 = .ok (.iconst 0, 1) := by decide +kernel
theorem dL_law_106 : decode cL_law 106 = .ok (.istore 6, 2) := by decide +kernel
theorem dL_law_108 : decode cL_law 108 = .ok (.iconst 0, 1) := by decide +kernel
theorem dL_law_109 : decode cL_law 109 = .ok (.istore 7, 2) := by decide +kernel
theorem dL_law_111 : decode cL_law 111 = .ok (.iload 7, 2) := by decide +kernel
theorem dL_law_113 : decode cL_law 113 = .ok (.bipush 120, 2) := by decide +kernel
theorem dL_law_115 : decode cL_law 115 = .ok (.if_icmp .ge 628, 3) := by decide +kernel
theorem dL_law_118 : decode cL_law 118 = .ok (.iload 6, 2) := by decide +kernel
theorem dL_law_120 : decode cL_law 120 = .ok (.ifCond .eq 623, 3) := by decide +kernel
theorem dL_law_123 : decode cL_law 123 = .ok (.aload_n 0, 1) := by decide +kernel
theorem dL_law_124 : decode cL_law 124 = .ok (.iload 7, 2) := by decide +kernel
theorem dL_law_126 : decode cL_law 126 = .ok (.invokestatic 108, 3) := by decide +kernel
theorem dL_law_129 : decode cL_law 129 = .ok (.istore 8, 2) := by decide +kernel
theorem dL_law_131 : decode cL_law 131 = .ok (.iload 8, 2) := by decide +kernel
theorem dL_law_133 : decode cL_law 133 = .ok (.bipush 32, 2) := by decide +kernel
theorem dL_law_135 : decode cL_law 135 = .ok (.idiv, 1) := by decide +kernel
theorem dL_law_136 : decode cL_law 136 = .ok (.istore 9, 2) := by decide +kernel
theorem dL_law_138 : decode cL_law 138 = .ok (.iload 8, 2) := by decide +kernel
theorem dL_law_140 : decode cL_law 140 = .ok (.bipush 32, 2) := by decide +kernel
theorem dL_law_142 : decode cL_law 142 = .ok (.irem, 1) := by decide +kernel
theorem dL_law_143 : decode cL_law 143 = .ok (.istore 10, 2) := by decide +kernel
theorem dL_law_145 : decode cL_law 145 = .ok (.iload 9, 2) := by decide +kernel
theorem dL_law_147 : decode cL_law 147 = .ok (.bipush 16, 2) := by decide +kernel
theorem dL_law_149 : decode cL_law 149 = .ok (.irem, 1) := by decide +kernel
theorem dL_law_150 : decode cL_law 150 = .ok (.bipush 9, 2) := by decide +kernel
theorem dL_law_152 : decode cL_law 152 = .ok (.if_icmp .ge 7, 3) := by decide +kernel
theorem dL_law_155 : decode cL_law 155 = .ok (.iconst 0, 1) := by decide +kernel
theorem dL_law_156 : decode cL_law 156 = .ok (.goto 18, 3) := by decide +kernel
theorem dL_law_159 : decode cL_law 159 = .ok (.iload 9, 2) := by decide +kernel
theorem dL_law_161 : decode cL_law 161 = .ok (.bipush 16, 2) := by decide +kernel
theorem dL_law_163 : decode cL_law 163 = .ok (.irem, 1) := by decide +kernel
theorem dL_law_164 : decode cL_law 164 = .ok (.bipush 13, 2) := by decide +kernel
theorem dL_law_166 : decode cL_law 166 = .ok (.if_icmp .ge 7, 3) := by decide +kernel
theorem dL_law_169 : decode cL_law 169 = .ok (.iconst 1, 1) := by decide +kernel
theorem dL_law_170 : decode cL_law 170 = .ok (.goto 4, 3) := by decide +kernel
theorem dL_law_173 : decode cL_law 173 = .ok (.iconst 2, 1) := by decide +kernel
theorem dL_law_174 : decode cL_law 174 = .ok (.istore 11, 2) := by decide +kernel
theorem dL_law_176 : decode cL_law 176 = .ok (.iload 9, 2) := by decide +kernel
theorem dL_law_178 : decode cL_law 178 = .ok (.bipush 16, 2) := by decide +kernel
theorem dL_law_180 : decode cL_law 180 = .ok (.idiv, 1) := by decide +kernel
theorem dL_law_181 : decode cL_law 181 = .ok (.iload 9, 2) := by decide +kernel
theorem dL_law_183 : decode cL_law 183 = .ok (.iconst 3, 1) := by decide +kernel
theorem dL_law_184 : decode cL_law 184 = .ok (.irem, 1) := by decide +kernel
theorem dL_law_185 : decode cL_law 185 = .ok (.ifCond .ne 8, 3) := by decide +kernel
theorem dL_law_188 : decode cL_law 188 = .ok (.bipush 20, 2) := by decide +kernel
theorem dL_law_190 : decode cL_law 190 = .ok (.goto 5, 3) := by decide +kernel
theorem dL_law_193 : decode cL_law 193 = .ok (.bipush 7, 2) := by decide +kernel
theorem dL_law_195 : decode cL_law 195 = .ok (.irem, 1) := by decide +kernel
theorem dL_law_196 : decode cL_law 196 = .ok (.istore 12, 2) := by decide +kernel
theorem dL_law_198 : decode cL_law 198 = .ok (.iload 10, 2) := by decide +kernel
theorem dL_law_200 : decode cL_law 200 = .ok (.ifCond .ne 110, 3) := by decide +kernel
theorem dL_law_203 : decode cL_law 203 = .ok (.aload 5, 2) := by decide +kernel
theorem dL_law_205 : decode cL_law 205 = .ok (.iconst 4, 1) := by decide +kernel
theorem dL_law_206 : decode cL_law 206 = .ok (.iload 11, 2) := by decide +kernel
theorem dL_law_208 : decode cL_law 208 = .ok (.imul, 1) := by decide +kernel
theorem dL_law_209 : decode cL_law 209 = .ok (.iaload, 1) := by decide +kernel
theorem dL_law_210 : decode cL_law 210 = .ok (.istore 13, 2) := by decide +kernel
theorem dL_law_212 : decode cL_law 212 = .ok (.aload 5, 2) := by decide +kernel
theorem dL_law_214 : decode cL_law 214 = .ok (.iconst 4, 1) := by decide +kernel
theorem dL_law_215 : decode cL_law 215 = .ok (.iload 11, 2) := by decide +kernel
theorem dL_law_217 : decode cL_law 217 = .ok (.imul, 1) := by decide +kernel
theorem dL_law_218 : decode cL_law 218 = .ok (.iconst 1, 1) := by decide +kernel
theorem dL_law_219 : decode cL_law 219 = .ok (.iload 9, 2) := by decide +kernel
theorem dL_law_221 : decode cL_law 221 = .ok (.bipush 16, 2) := by decide +kernel
theorem dL_law_223 : decode cL_law 223 = .ok (.idiv, 1) := by decide +kernel
theorem dL_law_224 : decode cL_law 224 = .ok (.iload 9, 2) := by decide +kernel
theorem dL_law_226 : decode cL_law 226 = .ok (.iconst 5, 1) := by decide +kernel
theorem dL_law_227 : decode cL_law 227 = .ok (.irem, 1) := by decide +kernel
theorem dL_law_228 : decode cL_law 228 = .ok (.ifCond .ne 8, 3) := by decide +kernel
theorem dL_law_231 : decode cL_law 231 = .ok (.bipush 30, 2) := by decide +kernel
theorem dL_law_233 : decode cL_law 233 = .ok (.goto 4, 3) := by decide +kernel
theorem dL_law_236 : decode cL_law 236 = .ok (.iconst 5, 1) := by decide +kernel
theorem dL_law_237 : decode cL_law 237 = .ok (.irem, 1) := by decide +kernel
theorem dL_law_238 : decode cL_law 238 = .ok (.iadd, 1) := by decide +kernel
theorem dL_law_239 : decode cL_law 239 = .ok (.iastore, 1) := by decide +kernel
theorem dL_law_240 : decode cL_law 240 = .ok (.aload 5, 2) := by decide +kernel
theorem dL_law_242 : decode cL_law 242 = .ok (.iconst 4, 1) := by decide +kernel
theorem dL_law_243 : decode cL_law 243 = .ok (.iload 11, 2) := by decide +kernel
theorem dL_law_245 : decode cL_law 245 = .ok (.imul, 1) := by decide +kernel
theorem dL_law_246 : decode cL_law 246 = .ok (.iconst 1, 1) := by decide +kernel
theorem dL_law_247 : decode cL_law 247 = .ok (.iadd, 1) := by decide +kernel
theorem dL_law_248 : decode cL_law 248 = .ok (.iload 9, 2) := by decide +kernel
theorem dL_law_250 : decode cL_law 250 = .ok (.sipush 480, 3) := by decide +kernel
theorem dL_law_253 : decode cL_law 253 = .ok (.idiv, 1) := by decide +kernel
theorem dL_law_254 : decode cL_law 254 = .ok (.iconst 3, 1) := by decide +kernel
theorem dL_law_255 : decode cL_law 255 = .ok (.irem, 1) := by decide +kernel
theorem dL_law_256 : decode cL_law 256 = .ok (.iastore, 1) := by decide +kernel
theorem dL_law_257 : decode cL_law 257 = .ok (.aload_n 2, 1) := by decide +kernel
theorem dL_law_258 : decode cL_law 258 = .ok (.aload 4, 2) := by decide +kernel
theorem dL_law_260 : decode cL_law 260 = .ok (.aload 5, 2) := by decide +kernel
theorem dL_law_262 : decode cL_law 262 = .ok (.iload 11, 2) := by decide +kernel
theorem dL_law_264 : decode cL_law 264 = .ok (.aload_n 1, 1) := by decide +kernel
theorem dL_law_265 : decode cL_law 265 = .ok (.invokevirtual 67, 3) := by decide +kernel
theorem dL_law_268 : decode cL_law 268 = .ok (.invokestatic 112, 3) := by decide +kernel
theorem dL_law_271 : decode cL_law 271 = .ok (.aload_n 1, 1) := by decide +kernel
theorem dL_law_272 : decode cL_law 272 = .ok (.iconst 0, 1) := by decide +kernel
theorem dL_law_273 : decode cL_law 273 = .ok (.iload 11, 2) := by decide +kernel
theorem dL_law_275 : decode cL_law 275 = .ok (.aload 5, 2) := by decide +kernel
theorem dL_law_277 : decode cL_law 277 = .ok (.iconst 4, 1) := by decide +kernel
theorem dL_law_278 : decode cL_law 278 = .ok (.iload 11, 2) := by decide +kernel
theorem dL_law_280 : decode cL_law 280 = .ok (.imul, 1) := by decide +kernel
theorem dL_law_281 : decode cL_law 281 = .ok (.iaload, 1) := by decide +kernel
theorem dL_law_282 : decode cL_law 282 = .ok (.aload 5, 2) := by decide +kernel
theorem dL_law_284 : decode cL_law 284 = .ok (.iconst 4, 1) := by decide +kernel
theorem dL_law_285 : decode cL_law 285 = .ok (.iload 11, 2) := by decide +kernel
theorem dL_law_287 : decode cL_law 287 = .ok (.imul, 1) := by decide +kernel
theorem dL_law_288 : decode cL_law 288 = .ok (.iconst 1, 1) := by decide +kernel
theorem dL_law_289 : decode cL_law 289 = .ok (.iadd, 1) := by decide +kernel
theorem dL_law_290 : decode cL_law 290 = .ok (.iaload, 1) := by decide +kernel
theorem dL_law_291 : decode cL_law 291 = .ok (.iconst 0, 1) := by decide +kernel
theorem dL_law_292 : decode cL_law 292 = .ok (.invokestatic 92, 3) := by decide +kernel
theorem dL_law_295 : decode cL_law 295 = .ok (.iload 13, 2) := by decide +kernel
theorem dL_law_297 : decode cL_law 297 = .ok (.if_icmp .ne 7, 3) := by decide +kernel
theorem dL_law_300 : decode cL_law 300 = .ok (.iconst 1, 1) := by decide +kernel
theorem dL_law_301 : decode cL_law 301 = .ok (.goto 4, 3) := by decide +kernel
theorem dL_law_304 : decode cL_law 304 = .ok (.iconst 0, 1) := by decide +kernel
theorem dL_law_305 : decode cL_law 305 = .ok (.istore 6, 2) := by decide +kernel
theorem dL_law_307 : decode cL_law 307 = .ok (.goto 385, 3) := by decide +kernel
theorem dL_law_310 : decode cL_law 310 = .ok (.iload 10, 2) := by decide +kernel
theorem dL_law_312 : decode cL_law 312 = .ok (.bipush 12, 2) := by decide +kernel
theorem dL_law_314 : decode cL_law 314 = .ok (.if_icmp .ge 38, 3) := by decide +kernel
theorem dL_law_317 : decode cL_law 317 = .ok (.aload_n 1, 1) := by decide +kernel
theorem dL_law_318 : decode cL_law 318 = .ok (.aload_n 2, 1) := by decide +kernel
theorem dL_law_319 : decode cL_law 319 = .ok (.aload 5, 2) := by decide +kernel
theorem dL_law_321 : decode cL_law 321 = .ok (.iload 11, 2) := by decide +kernel
theorem dL_law_323 : decode cL_law 323 = .ok (.iload 12, 2) := by decide +kernel
theorem dL_law_325 : decode cL_law 325 = .ok (.iload 9, 2) := by decide +kernel
theorem dL_law_327 : decode cL_law 327 = .ok (.sipush 320, 3) := by decide +kernel
theorem dL_law_330 : decode cL_law 330 = .ok (.idiv, 1) := by decide +kernel
theorem dL_law_331 : decode cL_law 331 = .ok (.bipush 10, 2) := by decide +kernel
theorem dL_law_333 : decode cL_law 333 = .ok (.irem, 1) := by decide +kernel
theorem dL_law_334 : decode cL_law 334 = .ok (.iload 9, 2) := by decide +kernel
theorem dL_law_336 : decode cL_law 336 = .ok (.sipush 3200, 3) := by decide +kernel
theorem dL_law_339 : decode cL_law 339 = .ok (.idiv, 1) := by decide +kernel
theorem dL_law_340 : decode cL_law 340 = .ok (.sipush 1001, 3) := by decide +kernel
theorem dL_law_343 : decode cL_law 343 = .ok (.irem, 1) := by decide +kernel
theorem dL_law_344 : decode cL_law 344 = .ok (.invokestatic 116, 3) := by decide +kernel
theorem dL_law_347 : decode cL_law 347 = .ok (.istore 6, 2) := by decide +kernel
theorem dL_law_349 : decode cL_law 349 = .ok (.goto 343, 3) := by decide +kernel
theorem dL_law_352 : decode cL_law 352 = .ok (.iload 10, 2) := by decide +kernel
theorem dL_law_354 : decode cL_law 354 = .ok (.bipush 17, 2) := by decide +kernel
theorem dL_law_356 : decode cL_law 356 = .ok (.if_icmp .ge 21, 3) := by decide +kernel
theorem dL_law_359 : decode cL_law 359 = .ok (.aload_n 1, 1) := by decide +kernel
theorem dL_law_360 : decode cL_law 360 = .ok (.aload_n 2, 1) := by decide +kernel
theorem dL_law_361 : decode cL_law 361 = .ok (.aload 4, 2) := by decide +kernel
theorem dL_law_363 : decode cL_law 363 = .ok (.aload 5, 2) := by decide +kernel
theorem dL_law_365 : decode cL_law 365 = .ok (.iload 11, 2) := by decide +kernel
theorem dL_law_367 : decode cL_law 367 = .ok (.iload 12, 2) := by decide +kernel
theorem dL_law_369 : decode cL_law 369 = .ok (.invokestatic 120, 3) := by decide +kernel
theorem dL_law_372 : decode cL_law 372 = .ok (.istore 6, 2) := by decide +kernel
theorem dL_law_374 : decode cL_law 374 = .ok (.goto 318, 3) := by decide +kernel
theorem dL_law_377 : decode cL_law 377 = .ok (.iload 10, 2) := by decide +kernel
theorem dL_law_379 : decode cL_law 379 = .ok (.bipush 21, 2) := by decide +kernel
theorem dL_law_381 : decode cL_law 381 = .ok (.if_icmp .ge 142, 3) := by decide +kernel
theorem dL_law_384 : decode cL_law 384 = .ok (.iload 10, 2) := by decide +kernel
theorem dL_law_386 : decode cL_law 386 = .ok (.bipush 20, 2) := by decide +kernel
theorem dL_law_388 : decode cL_law 388 = .ok (.if_icmp .ne 13, 3) := by decide +kernel
theorem dL_law_391 : decode cL_law 391 = .ok (.iconst 1, 1) := by decide +kernel
theorem dL_law_392 : decode cL_law 392 = .ok (.iload 9, 2) := by decide +kernel
theorem dL_law_394 : decode cL_law 394 = .ok (.bipush 100, 2) := by decide +kernel
theorem dL_law_396 : decode cL_law 396 = .ok (.irem, 1) := by decide +kernel
theorem dL_law_397 : decode cL_law 397 = .ok (.iadd, 1) := by decide +kernel
theorem dL_law_398 : decode cL_law 398 = .ok (.goto 9, 3) := by decide +kernel
theorem dL_law_401 : decode cL_law 401 = .ok (.iconst 1, 1) := by decide +kernel
theorem dL_law_402 : decode cL_law 402 = .ok (.iload 9, 2) := by decide +kernel
theorem dL_law_404 : decode cL_law 404 = .ok (.iconst 4, 1) := by decide +kernel
theorem dL_law_405 : decode cL_law 405 = .ok (.irem, 1) := by decide +kernel
theorem dL_law_406 : decode cL_law 406 = .ok (.iadd, 1) := by decide +kernel
theorem dL_law_407 : decode cL_law 407 = .ok (.istore 13, 2) := by decide +kernel
theorem dL_law_409 : decode cL_law 409 = .ok (.aload_n 1, 1) := by decide +kernel
theorem dL_law_410 : decode cL_law 410 = .ok (.invokevirtual 67, 3) := by decide +kernel
theorem dL_law_413 : decode cL_law 413 = .ok (.istore 14, 2) := by decide +kernel
theorem dL_law_415 : decode cL_law 415 = .ok (.iload 14, 2) := by decide +kernel
theorem dL_law_417 : decode cL_law 417 = .ok (.iload 13, 2) := by decide +kernel
theorem dL_law_419 : decode cL_law 419 = .ok (.iadd, 1) := by decide +kernel
theorem dL_law_420 : decode cL_law 420 = .ok (.sipush 5000, 3) := by decide +kernel
theorem dL_law_423 : decode cL_law 423 = .ok (.if_icmp .gt 7, 3) := by decide +kernel
theorem dL_law_426 : decode cL_law 426 = .ok (.iconst 1, 1) := by decide +kernel
theorem dL_law_427 : decode cL_law 427 = .ok (.goto 4, 3) := by decide +kernel
theorem dL_law_430 : decode cL_law 430 = .ok (.iconst 0, 1) := by decide +kernel
theorem dL_law_431 : decode cL_law 431 = .ok (.istore 15, 2) := by decide +kernel
theorem dL_law_433 : decode cL_law 433 = .ok (.aload_n 1, 1) := by decide +kernel
theorem dL_law_434 : decode cL_law 434 = .ok (.iconst 3, 1) := by decide +kernel
theorem dL_law_435 : decode cL_law 435 = .ok (.iload 13, 2) := by decide +kernel
theorem dL_law_437 : decode cL_law 437 = .ok (.iconst 0, 1) := by decide +kernel
theorem dL_law_438 : decode cL_law 438 = .ok (.iconst 0, 1) := by decide +kernel
theorem dL_law_439 : decode cL_law 439 = .ok (.iconst 0, 1) := by decide +kernel
theorem dL_law_440 : decode cL_law 440 = .ok (.invokestatic 92, 3) := by decide +kernel
theorem dL_law_443 : decode cL_law 443 = .ok (.iload 15, 2) := by decide +kernel
theorem dL_law_445 : decode cL_law 445 = .ok (.ifCond .eq 11, 3) := by decide +kernel
theorem dL_law_448 : decode cL_law 448 = .ok (.iload 14, 2) := by decide +kernel
theorem dL_law_450 : decode cL_law 450 = .ok (.iload 13, 2) := by decide +kernel
theorem dL_law_452 : decode cL_law 452 = .ok (.iadd, 1) := by decide +kernel
theorem dL_law_453 : decode cL_law 453 = .ok (.goto 6, 3) := by decide +kernel
theorem dL_law_456 : decode cL_law 456 = .ok (.sipush (-993), 3) := by decide +kernel
theorem dL_law_459 : decode cL_law 459 = .ok (.if_icmp .ne 29, 3) := by decide +kernel
theorem dL_law_462 : decode cL_law 462 = .ok (.aload_n 1, 1) := by decide +kernel
theorem dL_law_463 : decode cL_law 463 = .ok (.invokevirtual 67, 3) := by decide +kernel
theorem dL_law_466 : decode cL_law 466 = .ok (.iload 15, 2) := by decide +kernel
theorem dL_law_468 : decode cL_law 468 = .ok (.ifCond .eq 11, 3) := by decide +kernel
theorem dL_law_471 : decode cL_law 471 = .ok (.iload 14, 2) := by decide +kernel
theorem dL_law_473 : decode cL_law 473 = .ok (.iload 13, 2) := by decide +kernel
theorem dL_law_475 : decode cL_law 475 = .ok (.iadd, 1) := by decide +kernel
theorem dL_law_476 : decode cL_law 476 = .ok (.goto 5, 3) := by decide +kernel
theorem dL_law_479 : decode cL_law 479 = .ok (.iload 14, 2) := by decide +kernel
theorem dL_law_481 : decode cL_law 481 = .ok (.if_icmp .ne 7, 3) := by decide +kernel
theorem dL_law_484 : decode cL_law 484 = .ok (.iconst 1, 1) := by decide +kernel
theorem dL_law_485 : decode cL_law 485 = .ok (.goto 4, 3) := by decide +kernel
theorem dL_law_488 : decode cL_law 488 = .ok (.iconst 0, 1) := by decide +kernel
theorem dL_law_489 : decode cL_law 489 = .ok (.istore 6, 2) := by decide +kernel
theorem dL_law_491 : decode cL_law 491 = .ok (.iconst 0, 1) := by decide +kernel
theorem dL_law_492 : decode cL_law 492 = .ok (.istore 16, 2) := by decide +kernel
theorem dL_law_494 : decode cL_law 494 = .ok (.iload 16, 2) := by decide +kernel
theorem dL_law_496 : decode cL_law 496 = .ok (.iconst 3, 1) := by decide +kernel
theorem dL_law_497 : decode cL_law 497 = .ok (.if_icmp .ge 23, 3) := by decide +kernel
theorem dL_law_500 : decode cL_law 500 = .ok (.aload_n 2, 1) := by decide +kernel
theorem dL_law_501 : decode cL_law 501 = .ok (.aload 4, 2) := by decide +kernel
theorem dL_law_503 : decode cL_law 503 = .ok (.aload 5, 2) := by decide +kernel
theorem dL_law_505 : decode cL_law 505 = .ok (.iload 16, 2) := by decide +kernel
theorem dL_law_507 : decode cL_law 507 = .ok (.aload_n 1, 1) := by decide +kernel
theorem dL_law_508 : decode cL_law 508 = .ok (.invokevirtual 67, 3) := by decide +kernel
theorem dL_law_511 : decode cL_law 511 = .ok (.invokestatic 112, 3) := by decide +kernel
theorem dL_law_514 : decode cL_law 514 = .ok (.iinc 16 1, 3) := by decide +kernel
theorem dL_law_517 : decode cL_law 517 = .ok (.goto (-23), 3) := by decide +kernel
theorem dL_law_520 : decode cL_law 520 = .ok (.goto 172, 3) := by decide +kernel
theorem dL_law_523 : decode cL_law 523 = .ok (.iload 10, 2) := by decide +kernel
theorem dL_law_525 : decode cL_law 525 = .ok (.bipush 27, 2) := by decide +kernel
theorem dL_law_527 : decode cL_law 527 = .ok (.if_icmp .ge 33, 3) := by decide +kernel
theorem dL_law_530 : decode cL_law 530 = .ok (.aload_n 1, 1) := by decide +kernel
theorem dL_law_531 : decode cL_law 531 = .ok (.aload_n 2, 1) := by decide +kernel
theorem dL_law_532 : decode cL_law 532 = .ok (.aload_n 3, 1) := by decide +kernel
theorem dL_law_533 : decode cL_law 533 = .ok (.aload 5, 2) := by decide +kernel
theorem dL_law_535 : decode cL_law 535 = .ok (.iload 11, 2) := by decide +kernel
theorem dL_law_537 : decode cL_law 537 = .ok (.iload 9, 2) := by decide +kernel
theorem dL_law_539 : decode cL_law 539 = .ok (.bipush 16, 2) := by decide +kernel
theorem dL_law_541 : decode cL_law 541 = .ok (.idiv, 1) := by decide +kernel
theorem dL_law_542 : decode cL_law 542 = .ok (.iconst 3, 1) := by decide +kernel
theorem dL_law_543 : decode cL_law 543 = .ok (.irem, 1) := by decide +kernel
theorem dL_law_544 : decode cL_law 544 = .ok (.ifCond .ne 7, 3) := by decide +kernel
theorem dL_law_547 : decode cL_law 547 = .ok (.iconst 1, 1) := by decide +kernel
theorem dL_law_548 : decode cL_law 548 = .ok (.goto 4, 3) := by decide +kernel
theorem dL_law_551 : decode cL_law 551 = .ok (.iconst 0, 1) := by decide +kernel
theorem dL_law_552 : decode cL_law 552 = .ok (.invokestatic 99, 3) := by decide +kernel
theorem dL_law_555 : decode cL_law 555 = .ok (.istore 6, 2) := by decide +kernel
theorem dL_law_557 : decode cL_law 557 = .ok (.goto 135, 3) := by decide +kernel
theorem dL_law_560 : decode cL_law 560 = .ok (.iload 9, 2) := by decide +kernel
theorem dL_law_562 : decode cL_law 562 = .ok (.bipush 16, 2) := by decide +kernel
theorem dL_law_564 : decode cL_law 564 = .ok (.idiv, 1) := by decide +kernel
theorem dL_law_565 : decode cL_law 565 = .ok (.iconst 2, 1) := by decide +kernel
theorem dL_law_566 : decode cL_law 566 = .ok (.irem, 1) := by decide +kernel
theorem dL_law_567 : decode cL_law 567 = .ok (.ifCond .ne 7, 3) := by decide +kernel
theorem dL_law_570 : decode cL_law 570 = .ok (.iconst 1, 1) := by decide +kernel
theorem dL_law_571 : decode cL_law 571 = .ok (.goto 4, 3) := by decide +kernel
theorem dL_law_574 : decode cL_law 574 = .ok (.iconst 0, 1) := by decide +kernel
theorem dL_law_575 : decode cL_law 575 = .ok (.istore 13, 2) := by decide +kernel
theorem dL_law_577 : decode cL_law 577 = .ok (.iload 13, 2) := by decide +kernel
theorem dL_law_579 : decode cL_law 579 = .ok (.ifCond .eq 7, 3) := by decide +kernel
theorem dL_law_582 : decode cL_law 582 = .ok (.iconst 0, 1) := by decide +kernel
theorem dL_law_583 : decode cL_law 583 = .ok (.goto 9, 3) := by decide +kernel
theorem dL_law_586 : decode cL_law 586 = .ok (.aload_n 1, 1) := by decide +kernel
theorem dL_law_587 : decode cL_law 587 = .ok (.iload 11, 2) := by decide +kernel
theorem dL_law_589 : decode cL_law 589 = .ok (.invokevirtual 48, 3) := by decide +kernel
theorem dL_law_592 : decode cL_law 592 = .ok (.istore 14, 2) := by decide +kernel
theorem dL_law_594 : decode cL_law 594 = .ok (.aload 5, 2) := by decide +kernel
theorem dL_law_596 : decode cL_law 596 = .ok (.iconst 4, 1) := by decide +kernel
theorem dL_law_597 : decode cL_law 597 = .ok (.iload 11, 2) := by decide +kernel
theorem dL_law_599 : decode cL_law 599 = .ok (.imul, 1) := by decide +kernel
theorem dL_law_600 : decode cL_law 600 = .ok (.iconst 2, 1) := by decide +kernel
theorem dL_law_601 : decode cL_law 601 = .ok (.iadd, 1) := by decide +kernel
theorem dL_law_602 : decode cL_law 602 = .ok (.iload 13, 2) := by decide +kernel
theorem dL_law_604 : decode cL_law 604 = .ok (.ifCond .eq 7, 3) := by decide +kernel
theorem dL_law_607 : decode cL_law 607 = .ok (.iconst 2, 1) := by decide +kernel
theorem dL_law_608 : decode cL_law 608 = .ok (.goto 4, 3) := by decide +kernel
theorem dL_law_611 : decode cL_law 611 = .ok (.iconst 1, 1) := by decide +kernel
theorem dL_law_612 : decode cL_law 612 = .ok (.iastore, 1) := by decide +kernel
theorem dL_law_613 : decode cL_law 613 = .ok (.aload_n 1, 1) := by decide +kernel
theorem dL_law_614 : decode cL_law 614 = .ok (.iload 11, 2) := by decide +kernel
theorem dL_law_616 : decode cL_law 616 = .ok (.iload 13, 2) := by decide +kernel
theorem dL_law_618 : decode cL_law 618 = .ok (.invokevirtual 37, 3) := by decide +kernel
theorem dL_law_621 : decode cL_law 621 = .ok (.iload 14, 2) := by decide +kernel
theorem dL_law_623 : decode cL_law 623 = .ok (.if_icmp .ne 66, 3) := by decide +kernel
theorem dL_law_626 : decode cL_law 626 = .ok (.aload_n 1, 1) := by decide +kernel
theorem dL_law_627 : decode cL_law 627 = .ok (.aload_n 2, 1) := by decide +kernel
theorem dL_law_628 : decode cL_law 628 = .ok (.aload_n 3, 1) := by decide +kernel
theorem dL_law_629 : decode cL_law 629 = .ok (.aload 5, 2) := by decide +kernel
theorem dL_law_631 : decode cL_law 631 = .ok (.iload 11, 2) := by decide +kernel
theorem dL_law_633 : decode cL_law 633 = .ok (.invokestatic 124, 3) := by decide +kernel
theorem dL_law_636 : decode cL_law 636 = .ok (.ifCond .eq 53, 3) := by decide +kernel
theorem dL_law_639 : decode cL_law 639 = .ok (.aload_n 1, 1) := by decide +kernel
theorem dL_law_640 : decode cL_law 640 = .ok (.aload_n 2, 1) := by decide +kernel
theorem dL_law_641 : decode cL_law 641 = .ok (.aload 5, 2) := by decide +kernel
theorem dL_law_643 : decode cL_law 643 = .ok (.iload 11, 2) := by decide +kernel
theorem dL_law_645 : decode cL_law 645 = .ok (.iload 12, 2) := by decide +kernel
theorem dL_law_647 : decode cL_law 647 = .ok (.iload 9, 2) := by decide +kernel
theorem dL_law_649 : decode cL_law 649 = .ok (.sipush 320, 3) := by decide +kernel
theorem dL_law_652 : decode cL_law 652 = .ok (.idiv, 1) := by decide +kernel
theorem dL_law_653 : decode cL_law 653 = .ok (.bipush 10, 2) := by decide +kernel
theorem dL_law_655 : decode cL_law 655 = .ok (.irem, 1) := by decide +kernel
theorem dL_law_656 : decode cL_law 656 = .ok (.iload 9, 2) := by decide +kernel
theorem dL_law_658 : decode cL_law 658 = .ok (.sipush 3200, 3) := by decide +kernel
theorem dL_law_661 : decode cL_law 661 = .ok (.idiv, 1) := by decide +kernel
theorem dL_law_662 : decode cL_law 662 = .ok (.sipush 1001, 3) := by decide +kernel
theorem dL_law_665 : decode cL_law 665 = .ok (.irem, 1) := by decide +kernel
theorem dL_law_666 : decode cL_law 666 = .ok (.invokestatic 116, 3) := by decide +kernel
theorem dL_law_669 : decode cL_law 669 = .ok (.ifCond .eq 20, 3) := by decide +kernel
theorem dL_law_672 : decode cL_law 672 = .ok (.aload_n 1, 1) := by decide +kernel
theorem dL_law_673 : decode cL_law 673 = .ok (.aload_n 2, 1) := by decide +kernel
theorem dL_law_674 : decode cL_law 674 = .ok (.aload_n 3, 1) := by decide +kernel
theorem dL_law_675 : decode cL_law 675 = .ok (.aload 5, 2) := by decide +kernel
theorem dL_law_677 : decode cL_law 677 = .ok (.iload 11, 2) := by decide +kernel
theorem dL_law_679 : decode cL_law 679 = .ok (.invokestatic 128, 3) := by decide +kernel
theorem dL_law_682 : decode cL_law 682 = .ok (.ifCond .eq 7, 3) := by decide +kernel
theorem dL_law_685 : decode cL_law 685 = .ok (.iconst 1, 1) := by decide +kernel
theorem dL_law_686 : decode cL_law 686 = .ok (.goto 4, 3) := by decide +kernel
theorem dL_law_689 : decode cL_law 689 = .ok (.iconst 0, 1) := by decide +kernel
theorem dL_law_690 : decode cL_law 690 = .ok (.istore 6, 2) := by decide +kernel
theorem dL_law_692 : decode cL_law 692 = .ok (.iload 6, 2) := by decide +kernel
theorem dL_law_694 : decode cL_law 694 = .ok (.ifCond .eq 40, 3) := by decide +kernel
theorem dL_law_697 : decode cL_law 697 = .ok (.aload_n 1, 1) := by decide +kernel
theorem dL_law_698 : decode cL_law 698 = .ok (.aload_n 2, 1) := by decide +kernel
theorem dL_law_699 : decode cL_law 699 = .ok (.aload_n 3, 1) := by decide +kernel
theorem dL_law_700 : decode cL_law 700 = .ok (.aload 5, 2) := by decide +kernel
theorem dL_law_702 : decode cL_law 702 = .ok (.invokestatic 131, 3) := by decide +kernel
theorem dL_law_705 : decode cL_law 705 = .ok (.ifCond .eq 29, 3) := by decide +kernel
theorem dL_law_708 : decode cL_law 708 = .ok (.iload 7, 2) := by decide +kernel
theorem dL_law_710 : decode cL_law 710 = .ok (.bipush 20, 2) := by decide +kernel
theorem dL_law_712 : decode cL_law 712 = .ok (.irem, 1) := by decide +kernel
theorem dL_law_713 : decode cL_law 713 = .ok (.ifCond .gt 17, 3) := by decide +kernel
theorem dL_law_716 : decode cL_law 716 = .ok (.aload_n 1, 1) := by decide +kernel
theorem dL_law_717 : decode cL_law 717 = .ok (.aload_n 2, 1) := by decide +kernel
theorem dL_law_718 : decode cL_law 718 = .ok (.aload 5, 2) := by decide +kernel
theorem dL_law_720 : decode cL_law 720 = .ok (.iload 8, 2) := by decide +kernel
theorem dL_law_722 : decode cL_law 722 = .ok (.iconst 3, 1) := by decide +kernel
theorem dL_law_723 : decode cL_law 723 = .ok (.idiv, 1) := by decide +kernel
theorem dL_law_724 : decode cL_law 724 = .ok (.invokestatic 104, 3) := by decide +kernel
theorem dL_law_727 : decode cL_law 727 = .ok (.ifCond .eq 7, 3) := by decide +kernel
theorem dL_law_730 : decode cL_law 730 = .ok (.iconst 1, 1) := by decide +kernel
theorem dL_law_731 : decode cL_law 731 = .ok (.goto 4, 3) := by decide +kernel
theorem dL_law_734 : decode cL_law 734 = .ok (.iconst 0, 1) := by decide +kernel
theorem dL_law_735 : decode cL_law 735 = .ok (.istore 6, 2) := by decide +kernel
theorem dL_law_737 : decode cL_law 737 = .ok (.iinc 7 1, 3) := by decide +kernel
theorem dL_law_740 : decode cL_law 740 = .ok (.goto (-629), 3) := by decide +kernel
theorem dL_law_743 : decode cL_law 743 = .ok (.iload 6, 2) := by decide +kernel
theorem dL_law_745 : decode cL_law 745 = .ok (.ireturn, 1) := by decide +kernel
