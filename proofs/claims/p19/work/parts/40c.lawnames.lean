theorem wsX30_inT : ∀ w ∈ wsX30, w ∈ lw_tbl := by decide +kernel
theorem wsX10_inT : ∀ w ∈ wsX10, w ∈ lw_tbl := by decide +kernel
theorem wsX00_inT : ∀ w ∈ wsX00, w ∈ lw_tbl := by decide +kernel
theorem wsX20_inT : ∀ w ∈ wsX20, w ∈ lw_tbl := by decide +kernel
theorem wsL_law_in0 : ∀ w ∈ wsL_law0, w ∈ lw_tbl := (fun w h => (List.mem_append.mp h).elim ((fun w h => (List.mem_append.mp h).elim ((fun w h => (List.mem_append.mp h).elim ((fun w h => (List.mem_append.mp h).elim ((fun w h => (List.mem_append.mp h).elim ((fun w h => (List.mem_append.mp h).elim (wsL_law0_r1_in w) ((fun w h => (List.mem_append.mp h).elim (wsL_law0_r2_in w) ((fun w h => (List.mem_append.mp h).elim (wsL_law0_r3_in w) ((fun w h => (List.mem_append.mp h).elim (wsL_law0_r4_in w) ((fun w h => (List.mem_append.mp h).elim (wsL_law0_r5_in w) ((fun w h => (List.mem_append.mp h).elim (wsL_law0_r6_in w) ((fun w h => (List.mem_append.mp h).elim (wsL_law0_r7_in w) ((fun w h => (List.mem_append.mp h).elim (wsL_law0_r8_in w) ((fun w h => (List.mem_append.mp h).elim (wsL_law0_r9_in w) ((fun w h => (List.mem_append.mp h).elim (wsL_law0_r10_in w) ((fun w h => (List.mem_append.mp h).elim (wsL_law0_r11_in w) (wsL_law0_r12_in w)) w)) w)) w)) w)) w)) w)) w)) w)) w)) w)) w) (wsX30_inT w)) w) (wsX10_inT w)) w) (wsX00_inT w)) w) (wsX20_inT w)) w) ((fun w h => nomatch h : ∀ w ∈ ([] : List Cond), w ∈ lw_tbl) w))
theorem wsL_law_x0 : ∀ w ∈ (vx_atS RX3 125 "java/lang/IllegalArgumentException" ["java/lang/RuntimeException", "java/lang/Exception"]).filter goodWord, w ∈ lw_tbl := by decide +kernel
theorem wsL_law_x1 : ∀ w ∈ (vx_atS RX3 65 "java/lang/IllegalStateException" ["java/lang/RuntimeException", "java/lang/Exception"]).filter goodWord, w ∈ lw_tbl := by decide +kernel
theorem wsL_law_in : ∀ w ∈ wsL_law, w ∈ lw_tbl := fun w h => (List.mem_append.mp h).elim (fun h => (List.mem_append.mp h).elim (fun h => wsL_law_in0 w h) (fun h => wsL_law_x0 w h)) (fun h => wsL_law_x1 w h)
theorem inlX0 : ∀ w ∈ wsX00, w ∈ wsL_law := fun _ h => List.mem_append_left _ (List.mem_append_left _ (List.mem_append_left _ (List.mem_append_left _ (List.mem_append_right _ h))))
theorem inX0 : ∀ w ∈ wsX00, w ∈ lw_tbl := fun w h => wsL_law_in w (inlX0 w h)
theorem inlX1 : ∀ w ∈ wsX10, w ∈ wsL_law := fun _ h => List.mem_append_left _ (List.mem_append_left _ (List.mem_append_left _ (List.mem_append_left _ (List.mem_append_left _ (List.mem_append_right _ h)))))
theorem inX1 : ∀ w ∈ wsX10, w ∈ lw_tbl := fun w h => wsL_law_in w (inlX1 w h)
theorem inlX2 : ∀ w ∈ wsX20, w ∈ wsL_law := fun _ h => List.mem_append_left _ (List.mem_append_left _ (List.mem_append_left _ (List.mem_append_right _ h)))
theorem inX2 : ∀ w ∈ wsX20, w ∈ lw_tbl := fun w h => wsL_law_in w (inlX2 w h)
theorem inlX3 : ∀ w ∈ wsX30, w ∈ wsL_law := fun _ h => List.mem_append_left _ (List.mem_append_left _ (List.mem_append_left _ (List.mem_append_left _ (List.mem_append_left _ (List.mem_append_left _ (List.mem_append_right _ h))))))
theorem inX3 : ∀ w ∈ wsX30, w ∈ lw_tbl := fun w h => wsL_law_in w (inlX3 w h)
theorem inX4 : ∀ w ∈ wsX40, w ∈ lw_tbl := by decide +kernel
theorem inJ0 : ∀ w ∈ wsJ00, w ∈ lw_tbl := by decide +kernel
theorem dL_dice_0 : decode cL_dice 0 = .ok (.iload_n 1, 1) := by decide +kernel
theorem dL_dice_1 : decode cL_dice 1 = .ok (.aload_n 0, 1) := by decide +kernel
theorem dL_dice_2 : decode cL_dice 2 = .ok (.arraylength, 1) := by decide +kernel
theorem dL_dice_3 : decode cL_dice 3 = .ok (.if_icmp .ge 9, 3) := by decide +kernel
theorem dL_dice_6 : decode cL_dice 6 = .ok (.aload_n 0, 1) := by decide +kernel
theorem dL_dice_7 : decode cL_dice 7 = .ok (.iload_n 1, 1) := by decide +kernel
theorem dL_dice_8 : decode cL_dice 8 = .ok (.iaload, 1) := by decide +kernel
theorem dL_dice_9 : decode cL_dice 9 = .ok (.goto 22, 3) := by decide +kernel
theorem dL_dice_12 : decode cL_dice 12 = .ok (.ldc 7, 2) := by decide +kernel
theorem dL_dice_14 : decode cL_dice 14 = .ok (.iload_n 1, 1) := by decide +kernel
theorem dL_dice_15 : decode cL_dice 15 = .ok (.sipush 163, 3) := by decide +kernel
theorem dL_dice_18 : decode cL_dice 18 = .ok (.iadd, 1) := by decide +kernel
theorem dL_dice_19 : decode cL_dice 19 = .ok (.imul, 1) := by decide +kernel
theorem dL_dice_20 : decode cL_dice 20 = .ok (.sipush 565, 3) := by decide +kernel
theorem dL_dice_23 : decode cL_dice 23 = .ok (.iload_n 1, 1) := by decide +kernel
theorem dL_dice_24 : decode cL_dice 24 = .ok (.imul, 1) := by decide +kernel
theorem dL_dice_25 : decode cL_dice 25 = .ok (.iload_n 1, 1) := by decide +kernel
theorem dL_dice_26 : decode cL_dice 26 = .ok (.imul, 1) := by decide +kernel
theorem dL_dice_27 : decode cL_dice 27 = .ok (.iadd, 1) := by decide +kernel
theorem dL_dice_28 : decode cL_dice 28 = .ok (.bipush 67, 2) := by decide +kernel
theorem dL_dice_30 : decode cL_dice 30 = .ok (.iadd, 1) := by decide +kernel
theorem dL_dice_31 : decode cL_dice 31 = .ok (.ldc 8, 2) := by decide +kernel
theorem dL_dice_33 : decode cL_dice 33 = .ok (.iand, 1) := by decide +kernel
theorem dL_dice_34 : decode cL_dice 34 = .ok (.ireturn, 1) := by decide +kernel
set_option maxRecDepth 20000 in
theorem ggL_far_X3_setCatalogue : GoodIn wsL_far wsX3_setCatalogue := goodIn_ca (goodIn_r _ [7, 8, 9, 10, 11, 12, 13, 14, 6, 15, 16, 17, 18, 19, 20, 21, 22, 23, 24, 25, 26, 27, 28, 29, 93, 94, 95, 96, 97, 98, 99, 100, 101, 102, 103, 104, 105, 106, 107, 108, 109, 110] (by decide +kernel) (by decide +kernel)) (goodIn_sub (fun _ h => List.mem_cons_of_mem _ (List.mem_append_left _ (List.mem_append_right _ h))) (by decide +kernel))
set_option maxRecDepth 20000 in
theorem gL_far_X3_setCatalogue : GoodIn wsL_far (wsV RL 9 RX3 yX3_setCatalogue wsX3_setCatalogue) := goodIn_app (goodIn_of _ (by decide +kernel)) ggL_far_X3_setCatalogue
set_option maxRecDepth 20000 in
theorem ggL_far_X3_put : GoodIn wsL_far wsX3_put := goodIn_ca (goodIn_r _ [33, 8, 11, 12, 13, 14, 6, 15, 16, 17, 18, 34, 35, 36, 19, 20, 21, 37, 38, 39, 25, 40, 41, 29, 42, 43, 44, 45, 46, 47, 48, 49, 50, 51, 52, 53, 54, 55, 93, 94, 95, 96, 97, 98, 99, 100, 101, 102, 109, 110, 103, 104, 105, 106, 107, 108, 111, 112, 113, 114] (by decide +kernel) (by decide +kernel)) (goodIn_sub (fun _ h => List.mem_cons_of_mem _ (List.mem_append_left _ (List.mem_append_right _ h))) (by decide +kernel))
set_option maxRecDepth 20000 in
theorem gL_far_X3_put : GoodIn wsL_far (wsV RL 15 RX3 yX3_put wsX3_put) := goodIn_app (goodIn_of _ (by decide +kernel)) ggL_far_X3_put
set_option maxRecDepth 20000 in
theorem ggL_far_X3_remove : GoodIn wsL_far wsX3_remove := goodIn_ca (goodIn_ca (goodIn_r _ [59, 60, 61, 8, 62, 63, 11, 12, 13, 14, 6, 15, 16, 17, 18, 34, 35, 36, 19, 20, 21, 64, 65, 66, 25, 67, 41, 29, 28, 68, 27, 69, 70, 71, 50, 72, 52, 42, 43, 44, 45, 46, 93, 94, 95, 96, 97, 98, 99, 100, 101, 102, 103, 104, 105, 106, 107, 108, 111, 112, 113, 114, 109, 110] (by decide +kernel) (by decide +kernel)) (goodIn_sub (fun _ h => List.mem_cons_of_mem _ (List.mem_append_right _ h)) (by decide +kernel))) (goodIn_sub (fun _ h => List.mem_cons_of_mem _ (List.mem_append_left _ (List.mem_append_right _ h))) (by decide +kernel))
set_option maxRecDepth 20000 in
theorem gL_far_X3_remove : GoodIn wsL_far (wsV RL 19 RX3 yX3_remove wsX3_remove) := goodIn_app (goodIn_of _ (by decide +kernel)) ggL_far_X3_remove
set_option maxRecDepth 20000 in
theorem ggL_far_X3_pass : GoodIn wsL_far wsX3_pass := goodIn_ca (goodIn_ca (goodIn_r _ [76, 60, 61, 11, 8, 19, 20, 6, 21, 16, 17, 12, 13, 14, 15, 18, 22, 23, 24, 25, 26, 27, 28, 29, 109, 110, 93, 94, 95, 96, 97, 98, 99, 100, 101, 102, 103, 104, 105, 106, 107, 108] (by decide +kernel) (by decide +kernel)) (goodIn_sub (fun _ h => List.mem_cons_of_mem _ (List.mem_append_right _ h)) (by decide +kernel))) (goodIn_sub (fun _ h => List.mem_cons_of_mem _ (List.mem_append_left _ (List.mem_append_right _ h))) (by decide +kernel))
set_option maxRecDepth 20000 in
theorem gL_far_X3_pass : GoodIn wsL_far (wsV RL 23 RX3 yX3_pass wsX3_pass) := goodIn_app (goodIn_of _ (by decide +kernel)) ggL_far_X3_pass
set_option maxRecDepth 20000 in
theorem ggL_far_X3_far : GoodIn wsL_far wsX3_far := goodIn_ca (goodIn_r _ [80, 8, 62, 12, 13, 14, 6, 15, 16, 17, 18, 81, 82, 83, 50, 84, 52, 93, 94, 95, 96, 97, 98, 99, 100, 101, 102, 103, 104, 105, 106, 107, 108, 109, 110, 111, 112, 113, 114] (by decide +kernel) (by decide +kernel)) (goodIn_sub (fun _ h => List.mem_cons_of_mem _ (List.mem_append_left _ (List.mem_append_right _ h))) (by decide +kernel))
set_option maxRecDepth 20000 in
theorem gL_far_X3_far : GoodIn wsL_far (wsV RL 27 RX3 yX3_far wsX3_far) := goodIn_app (goodIn_of _ (by decide +kernel)) ggL_far_X3_far
set_option maxRecDepth 20000 in
theorem ggL_far_X3_told : GoodIn wsL_far wsX3_told := goodIn_ca (goodIn_r _ [88, 8, 12, 13, 14, 6, 15, 16, 17, 18, 89, 90, 91, 25, 92, 29, 93, 94, 95, 96, 97, 98, 99, 100, 101, 102, 109, 110, 103, 104, 105, 106, 107, 108] (by decide +kernel) (by decide +kernel)) (goodIn_sub (fun _ h => List.mem_cons_of_mem _ (List.mem_append_left _ (List.mem_append_right _ h))) (by decide +kernel))
set_option maxRecDepth 20000 in
theorem gL_far_X3_told : GoodIn wsL_far (wsV RL 30 RX3 yX3_told wsX3_told) := goodIn_app (goodIn_of _ (by decide +kernel)) ggL_far_X3_told
theorem dL_far_0 : decode cL_far 0 = .ok (.iload_n 1, 1) := by decide +kernel
theorem dL_far_1 : decode cL_far 1 = .ok (.ifCond .ne 14, 3) := by decide +kernel
theorem dL_far_4 : decode cL_far 4 = .ok (.aload_n 0, 1) := by decide +kernel
theorem dL_far_5 : decode cL_far 5 = .ok (.iload_n 2, 1) := by decide +kernel
theorem dL_far_6 : decode cL_far 6 = .ok (.iload_n 3, 1) := by decide +kernel
theorem dL_far_7 : decode cL_far 7 = .ok (.iload 4, 2) := by decide +kernel
theorem dL_far_9 : decode cL_far 9 = .ok (.invokevirtual 9, 3) := by decide +kernel
theorem dL_far_12 : decode cL_far 12 = .ok (.goto 74, 3) := by decide +kernel
theorem dL_far_15 : decode cL_far 15 = .ok (.iload_n 1, 1) := by decide +kernel
theorem dL_far_16 : decode cL_far 16 = .ok (.iconst 1, 1) := by decide +kernel
theorem dL_far_17 : decode cL_far 17 = .ok (.if_icmp .ne 16, 3) := by decide +kernel
theorem dL_far_20 : decode cL_far 20 = .ok (.aload_n 0, 1) := by decide +kernel
theorem dL_far_21 : decode cL_far 21 = .ok (.iload_n 2, 1) := by decide +kernel
theorem dL_far_22 : decode cL_far 22 = .ok (.iload_n 3, 1) := by decide +kernel
theorem dL_far_23 : decode cL_far 23 = .ok (.iload 4, 2) := by decide +kernel
theorem dL_far_25 : decode cL_far 25 = .ok (.iload 5, 2) := by decide +kernel
theorem dL_far_27 : decode cL_far 27 = .ok (.invokevirtual 15, 3) := by decide +kernel
theorem dL_far_30 : decode cL_far 30 = .ok (.goto 56, 3) := by decide +kernel
theorem dL_far_33 : decode cL_far 33 = .ok (.iload_n 1, 1) := by decide +kernel
theorem dL_far_34 : decode cL_far 34 = .ok (.iconst 2, 1) := by decide +kernel
theorem dL_far_35 : decode cL_far 35 = .ok (.if_icmp .ne 20, 3) := by decide +kernel
theorem dL_far_38 : decode cL_far 38 = .ok (.aload_n 0, 1) := by decide +kernel
theorem dL_far_39 : decode cL_far 39 = .ok (.iload_n 2, 1) := by decide +kernel
theorem dL_far_40 : decode cL_far 40 = .ok (.iload_n 3, 1) := by decide +kernel
theorem dL_far_41 : decode cL_far 41 = .ok (.invokevirtual 19, 3) := by decide +kernel
theorem dL_far_44 : decode cL_far 44 = .ok (.ifCond .eq 7, 3) := by decide +kernel
theorem dL_far_47 : decode cL_far 47 = .ok (.iconst 1, 1) := by decide +kernel
theorem dL_far_48 : decode cL_far 48 = .ok (.goto 38, 3) := by decide +kernel
theorem dL_far_51 : decode cL_far 51 = .ok (.iconst 0, 1) := by decide +kernel
theorem dL_far_52 : decode cL_far 52 = .ok (.goto 34, 3) := by decide +kernel
theorem dL_far_55 : decode cL_far 55 = .ok (.iload_n 1, 1) := by decide +kernel
theorem dL_far_56 : decode cL_far 56 = .ok (.iconst 3, 1) := by decide +kernel
theorem dL_far_57 : decode cL_far 57 = .ok (.if_icmp .ne 11, 3) := by decide +kernel
theorem dL_far_60 : decode cL_far 60 = .ok (.aload_n 0, 1) := by decide +kernel
theorem dL_far_61 : decode cL_far 61 = .ok (.iload_n 2, 1) := by decide +kernel
theorem dL_far_62 : decode cL_far 62 = .ok (.invokevirtual 23, 3) := by decide +kernel
theorem dL_far_65 : decode cL_far 65 = .ok (.goto 21, 3) := by decide +kernel
theorem dL_far_68 : decode cL_far 68 = .ok (.iload_n 1, 1) := by decide +kernel
theorem dL_far_69 : decode cL_far 69 = .ok (.iconst 4, 1) := by decide +kernel
theorem dL_far_70 : decode cL_far 70 = .ok (.if_icmp .ne 11, 3) := by decide +kernel
theorem dL_far_73 : decode cL_far 73 = .ok (.aload_n 0, 1) := by decide +kernel
theorem dL_far_74 : decode cL_far 74 = .ok (.iload_n 2, 1) := by decide +kernel
theorem dL_far_75 : decode cL_far 75 = .ok (.invokevirtual 27, 3) := by decide +kernel
theorem dL_far_78 : decode cL_far 78 = .ok (.goto 8, 3) := by decide +kernel
theorem dL_far_81 : decode cL_far 81 = .ok (.aload_n 0, 1) := by decide +kernel
theorem dL_far_82 : decode cL_far 82 = .ok (.iload_n 2, 1) := by decide +kernel
theorem dL_far_83 : decode cL_far 83 = .ok (.invokevirtual 30, 3) := by decide +kernel
theorem dL_far_86 : decode cL_far 86 = .ok (.ireturn, 1) := by decide +kernel
theorem dL_far_87 : decode cL_far 87 = .ok (.astore 6, 2) := by decide +kernel
theorem dL_far_89 : decode cL_far 89 = .ok (.sipush (-992), 3) := by decide +kernel
theorem dL_far_92 : decode cL_far 92 = .ok (.ireturn, 1) := by decide +kernel
theorem dL_far_93 : decode cL_far 93 = .ok (.astore 6, 2) := by decide +kernel
theorem dL_far_95 : decode cL_far 95 = .ok (.sipush (-993), 3) := by decide +kernel
theorem dL_far_98 : decode cL_far 98 = .ok (.ireturn, 1) := by decide +kernel
