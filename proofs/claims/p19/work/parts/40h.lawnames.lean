set_option maxRecDepth 20000 in
theorem ggL_isPut_X3_today : GoodIn wsL_isPut wsX3_today := goodIn_r _ [5, 6, 46, 47] (by decide +kernel) (by decide +kernel)
set_option maxRecDepth 20000 in
theorem gL_isPut_X3_today : GoodIn wsL_isPut (wsV RL 67 RX3 yX3_today wsX3_today) := goodIn_app (goodIn_of _ (by decide +kernel)) ggL_isPut_X3_today
set_option maxRecDepth 20000 in
theorem ggL_isPut_X3_put : GoodIn wsL_isPut wsX3_put := goodIn_ca (goodIn_r _ [10, 11, 6, 12, 13, 14, 4, 15, 16, 17, 18, 19, 20, 21, 22, 23, 24, 25, 26, 27, 28, 29, 30, 31, 32, 33, 34, 35, 36, 37, 38, 39, 40, 41, 42, 43, 44, 45, 48, 49, 50, 51, 52, 53, 54, 55, 56, 57, 46, 47, 58, 59, 60, 61, 62, 63, 64, 65, 66, 67] (by decide +kernel) (by decide +kernel)) (goodIn_sub (fun _ h => List.mem_cons_of_mem _ (List.mem_append_right _ h)) (by decide +kernel))
set_option maxRecDepth 20000 in
theorem gL_isPut_X3_put : GoodIn wsL_isPut (wsV RL 15 RX3 yX3_put wsX3_put) := goodIn_app (goodIn_of _ (by decide +kernel)) ggL_isPut_X3_put
theorem dL_isPut_0 : decode cL_isPut 0 = .ok (.aload_n 0, 1) := by decide +kernel
theorem dL_isPut_1 : decode cL_isPut 1 = .ok (.invokevirtual 67, 3) := by decide +kernel
theorem dL_isPut_4 : decode cL_isPut 4 = .ok (.istore 7, 2) := by decide +kernel
theorem dL_isPut_6 : decode cL_isPut 6 = .ok (.aload_n 0, 1) := by decide +kernel
theorem dL_isPut_7 : decode cL_isPut 7 = .ok (.iload_n 3, 1) := by decide +kernel
theorem dL_isPut_8 : decode cL_isPut 8 = .ok (.iload 4, 2) := by decide +kernel
theorem dL_isPut_10 : decode cL_isPut 10 = .ok (.iload 5, 2) := by decide +kernel
theorem dL_isPut_12 : decode cL_isPut 12 = .ok (.iload 6, 2) := by decide +kernel
theorem dL_isPut_14 : decode cL_isPut 14 = .ok (.invokevirtual 15, 3) := by decide +kernel
theorem dL_isPut_17 : decode cL_isPut 17 = .ok (.istore 8, 2) := by decide +kernel
theorem dL_isPut_19 : decode cL_isPut 19 = .ok (.aload_n 1, 1) := by decide +kernel
theorem dL_isPut_20 : decode cL_isPut 20 = .ok (.bipush 20, 2) := by decide +kernel
theorem dL_isPut_22 : decode cL_isPut 22 = .ok (.iload_n 3, 1) := by decide +kernel
theorem dL_isPut_23 : decode cL_isPut 23 = .ok (.imul, 1) := by decide +kernel
theorem dL_isPut_24 : decode cL_isPut 24 = .ok (.iload 4, 2) := by decide +kernel
theorem dL_isPut_26 : decode cL_isPut 26 = .ok (.iadd, 1) := by decide +kernel
theorem dL_isPut_27 : decode cL_isPut 27 = .ok (.iload 6, 2) := by decide +kernel
theorem dL_isPut_29 : decode cL_isPut 29 = .ok (.iload 5, 2) := by decide +kernel
theorem dL_isPut_31 : decode cL_isPut 31 = .ok (.bipush 10, 2) := by decide +kernel
theorem dL_isPut_33 : decode cL_isPut 33 = .ok (.ishl, 1) := by decide +kernel
theorem dL_isPut_34 : decode cL_isPut 34 = .ok (.ior, 1) := by decide +kernel
theorem dL_isPut_35 : decode cL_isPut 35 = .ok (.iload 8, 2) := by decide +kernel
theorem dL_isPut_37 : decode cL_isPut 37 = .ok (.bipush 14, 2) := by decide +kernel
theorem dL_isPut_39 : decode cL_isPut 39 = .ok (.ishl, 1) := by decide +kernel
theorem dL_isPut_40 : decode cL_isPut 40 = .ok (.ior, 1) := by decide +kernel
theorem dL_isPut_41 : decode cL_isPut 41 = .ok (.iastore, 1) := by decide +kernel
theorem dL_isPut_42 : decode cL_isPut 42 = .ok (.iload 8, 2) := by decide +kernel
theorem dL_isPut_44 : decode cL_isPut 44 = .ok (.aload_n 2, 1) := by decide +kernel
theorem dL_isPut_45 : decode cL_isPut 45 = .ok (.iconst 4, 1) := by decide +kernel
theorem dL_isPut_46 : decode cL_isPut 46 = .ok (.iload_n 3, 1) := by decide +kernel
theorem dL_isPut_47 : decode cL_isPut 47 = .ok (.imul, 1) := by decide +kernel
theorem dL_isPut_48 : decode cL_isPut 48 = .ok (.iaload, 1) := by decide +kernel
theorem dL_isPut_49 : decode cL_isPut 49 = .ok (.irem, 1) := by decide +kernel
theorem dL_isPut_50 : decode cL_isPut 50 = .ok (.ifCond .ne 27, 3) := by decide +kernel
theorem dL_isPut_53 : decode cL_isPut 53 = .ok (.iload 8, 2) := by decide +kernel
theorem dL_isPut_55 : decode cL_isPut 55 = .ok (.iload 7, 2) := by decide +kernel
theorem dL_isPut_57 : decode cL_isPut 57 = .ok (.if_icmp .gt 20, 3) := by decide +kernel
theorem dL_isPut_60 : decode cL_isPut 60 = .ok (.iload 8, 2) := by decide +kernel
theorem dL_isPut_62 : decode cL_isPut 62 = .ok (.aload_n 2, 1) := by decide +kernel
theorem dL_isPut_63 : decode cL_isPut 63 = .ok (.iconst 4, 1) := by decide +kernel
theorem dL_isPut_64 : decode cL_isPut 64 = .ok (.iload_n 3, 1) := by decide +kernel
theorem dL_isPut_65 : decode cL_isPut 65 = .ok (.imul, 1) := by decide +kernel
theorem dL_isPut_66 : decode cL_isPut 66 = .ok (.iaload, 1) := by decide +kernel
theorem dL_isPut_67 : decode cL_isPut 67 = .ok (.iadd, 1) := by decide +kernel
theorem dL_isPut_68 : decode cL_isPut 68 = .ok (.iload 7, 2) := by decide +kernel
theorem dL_isPut_70 : decode cL_isPut 70 = .ok (.if_icmp .le 7, 3) := by decide +kernel
theorem dL_isPut_73 : decode cL_isPut 73 = .ok (.iconst 1, 1) := by decide +kernel
theorem dL_isPut_74 : decode cL_isPut 74 = .ok (.goto 4, 3) := by decide +kernel
theorem dL_isPut_77 : decode cL_isPut 77 = .ok (.iconst 0, 1) := by decide +kernel
theorem dL_isPut_78 : decode cL_isPut 78 = .ok (.ireturn, 1) := by decide +kernel
set_option maxRecDepth 20000 in
theorem ggL_isRemoved_L_far : GoodIn wsL_isRemoved wsL_far := goodIn_ca (goodIn_ca (goodIn_r _ [4, 5, 6, 7, 8, 9, 10, 11, 12, 13, 14, 15, 16, 17, 18, 19, 20, 21, 22, 23, 24, 25, 26, 27, 28, 29, 30, 31, 32, 33, 34, 35, 36, 37, 38, 39, 40, 41, 42, 43, 44, 45, 46, 47, 48, 49, 50, 51, 52, 53, 54, 55, 56, 57, 58, 59, 60, 61, 62, 63, 64, 65, 66, 67, 68, 69, 70, 71, 72, 73, 74, 75, 76, 77, 78, 79, 80, 81, 82, 83, 84, 85, 86, 87, 88, 89, 90, 91, 92, 93, 94, 95, 96, 101, 102, 103, 104, 105, 106, 107, 108, 109, 110, 111, 112, 113, 114, 115, 116, 117, 118, 119, 120, 121, 122] (by decide +kernel) (by decide +kernel)) (goodIn_sub (fun _ h => List.mem_cons_of_mem _ (List.mem_append_left _ (List.mem_append_right _ h))) (by decide +kernel))) (goodIn_sub (fun _ h => List.mem_cons_of_mem _ (List.mem_append_right _ h)) (by decide +kernel))
set_option maxRecDepth 20000 in
theorem gL_isRemoved_L_far : GoodIn wsL_isRemoved (va_wsS RL 92 yL_far wsL_far) := goodIn_app (goodIn_of _ (by decide +kernel)) ggL_isRemoved_L_far
set_option maxRecDepth 20000 in
theorem ggL_isRemoved_X3_today : GoodIn wsL_isRemoved wsX3_today := goodIn_r _ [100, 15, 117, 118] (by decide +kernel) (by decide +kernel)
set_option maxRecDepth 20000 in
theorem gL_isRemoved_X3_today : GoodIn wsL_isRemoved (wsV RL 67 RX3 yX3_today wsX3_today) := goodIn_app (goodIn_of _ (by decide +kernel)) ggL_isRemoved_X3_today
theorem dL_isRemoved_0 : decode cL_isRemoved 0 = .ok (.bipush 20, 2) := by decide +kernel
theorem dL_isRemoved_2 : decode cL_isRemoved 2 = .ok (.iload 4, 2) := by decide +kernel
theorem dL_isRemoved_4 : decode cL_isRemoved 4 = .ok (.imul, 1) := by decide +kernel
theorem dL_isRemoved_5 : decode cL_isRemoved 5 = .ok (.iload 5, 2) := by decide +kernel
theorem dL_isRemoved_7 : decode cL_isRemoved 7 = .ok (.iadd, 1) := by decide +kernel
theorem dL_isRemoved_8 : decode cL_isRemoved 8 = .ok (.istore 6, 2) := by decide +kernel
theorem dL_isRemoved_10 : decode cL_isRemoved 10 = .ok (.aload_n 1, 1) := by decide +kernel
theorem dL_isRemoved_11 : decode cL_isRemoved 11 = .ok (.iload 6, 2) := by decide +kernel
theorem dL_isRemoved_13 : decode cL_isRemoved 13 = .ok (.iaload, 1) := by decide +kernel
theorem dL_isRemoved_14 : decode cL_isRemoved 14 = .ok (.ifCond .ge 26, 3) := by decide +kernel
theorem dL_isRemoved_17 : decode cL_isRemoved 17 = .ok (.aload_n 0, 1) := by decide +kernel
theorem dL_isRemoved_18 : decode cL_isRemoved 18 = .ok (.iconst 2, 1) := by decide +kernel
theorem dL_isRemoved_19 : decode cL_isRemoved 19 = .ok (.iload 4, 2) := by decide +kernel
theorem dL_isRemoved_21 : decode cL_isRemoved 21 = .ok (.iload 5, 2) := by decide +kernel
theorem dL_isRemoved_23 : decode cL_isRemoved 23 = .ok (.iconst 0, 1) := by decide +kernel
theorem dL_isRemoved_24 : decode cL_isRemoved 24 = .ok (.iconst 0, 1) := by decide +kernel
theorem dL_isRemoved_25 : decode cL_isRemoved 25 = .ok (.invokestatic 92, 3) := by decide +kernel
theorem dL_isRemoved_28 : decode cL_isRemoved 28 = .ok (.sipush (-993), 3) := by decide +kernel
theorem dL_isRemoved_31 : decode cL_isRemoved 31 = .ok (.if_icmp .ne 7, 3) := by decide +kernel
theorem dL_isRemoved_34 : decode cL_isRemoved 34 = .ok (.iconst 1, 1) := by decide +kernel
theorem dL_isRemoved_35 : decode cL_isRemoved 35 = .ok (.goto 4, 3) := by decide +kernel
theorem dL_isRemoved_38 : decode cL_isRemoved 38 = .ok (.iconst 0, 1) := by decide +kernel
theorem dL_isRemoved_39 : decode cL_isRemoved 39 = .ok (.ireturn, 1) := by decide +kernel
theorem dL_isRemoved_40 : decode cL_isRemoved 40 = .ok (.aload_n 3, 1) := by decide +kernel
theorem dL_isRemoved_41 : decode cL_isRemoved 41 = .ok (.iconst 4, 1) := by decide +kernel
theorem dL_isRemoved_42 : decode cL_isRemoved 42 = .ok (.iload 4, 2) := by decide +kernel
theorem dL_isRemoved_44 : decode cL_isRemoved 44 = .ok (.imul, 1) := by decide +kernel
theorem dL_isRemoved_45 : decode cL_isRemoved 45 = .ok (.iconst 1, 1) := by decide +kernel
theorem dL_isRemoved_46 : decode cL_isRemoved 46 = .ok (.iadd, 1) := by decide +kernel
theorem dL_isRemoved_47 : decode cL_isRemoved 47 = .ok (.iaload, 1) := by decide +kernel
theorem dL_isRemoved_48 : decode cL_isRemoved 48 = .ok (.iconst 2, 1) := by decide +kernel
theorem dL_isRemoved_49 : decode cL_isRemoved 49 = .ok (.if_icmp .eq 7, 3) := by decide +kernel
theorem dL_isRemoved_52 : decode cL_isRemoved 52 = .ok (.iconst 1, 1) := by decide +kernel
theorem dL_isRemoved_53 : decode cL_isRemoved 53 = .ok (.goto 4, 3) := by decide +kernel
theorem dL_isRemoved_56 : decode cL_isRemoved 56 = .ok (.iconst 0, 1) := by decide +kernel
theorem dL_isRemoved_57 : decode cL_isRemoved 57 = .ok (.istore 7, 2) := by decide +kernel
theorem dL_isRemoved_59 : decode cL_isRemoved 59 = .ok (.aload_n 1, 1) := by decide +kernel
theorem dL_isRemoved_60 : decode cL_isRemoved 60 = .ok (.iload 6, 2) := by decide +kernel
theorem dL_isRemoved_62 : decode cL_isRemoved 62 = .ok (.iload 7, 2) := by decide +kernel
theorem dL_isRemoved_64 : decode cL_isRemoved 64 = .ok (.ifCond .eq 25, 3) := by decide +kernel
theorem dL_isRemoved_67 : decode cL_isRemoved 67 = .ok (.bipush (-2), 2) := by decide +kernel
theorem dL_isRemoved_69 : decode cL_isRemoved 69 = .ok (.aload_n 0, 1) := by decide +kernel
theorem dL_isRemoved_70 : decode cL_isRemoved 70 = .ok (.invokevirtual 67, 3) := by decide +kernel
theorem dL_isRemoved_73 : decode cL_isRemoved 73 = .ok (.aload_n 0, 1) := by decide +kernel
theorem dL_isRemoved_74 : decode cL_isRemoved 74 = .ok (.invokevirtual 67, 3) := by decide +kernel
theorem dL_isRemoved_77 : decode cL_isRemoved 77 = .ok (.aload_n 3, 1) := by decide +kernel
theorem dL_isRemoved_78 : decode cL_isRemoved 78 = .ok (.iconst 4, 1) := by decide +kernel
theorem dL_isRemoved_79 : decode cL_isRemoved 79 = .ok (.iload 4, 2) := by decide +kernel
theorem dL_isRemoved_81 : decode cL_isRemoved 81 = .ok (.imul, 1) := by decide +kernel
theorem dL_isRemoved_82 : decode cL_isRemoved 82 = .ok (.iaload, 1) := by decide +kernel
theorem dL_isRemoved_83 : decode cL_isRemoved 83 = .ok (.irem, 1) := by decide +kernel
theorem dL_isRemoved_84 : decode cL_isRemoved 84 = .ok (.isub, 1) := by decide +kernel
theorem dL_isRemoved_85 : decode cL_isRemoved 85 = .ok (.isub, 1) := by decide +kernel
theorem dL_isRemoved_86 : decode cL_isRemoved 86 = .ok (.goto 4, 3) := by decide +kernel
theorem dL_isRemoved_89 : decode cL_isRemoved 89 = .ok (.iconst (-1), 1) := by decide +kernel
theorem dL_isRemoved_90 : decode cL_isRemoved 90 = .ok (.iastore, 1) := by decide +kernel
theorem dL_isRemoved_91 : decode cL_isRemoved 91 = .ok (.aload_n 2, 1) := by decide +kernel
theorem dL_isRemoved_92 : decode cL_isRemoved 92 = .ok (.iload 6, 2) := by decide +kernel
theorem dL_isRemoved_94 : decode cL_isRemoved 94 = .ok (.aload_n 0, 1) := by decide +kernel
theorem dL_isRemoved_95 : decode cL_isRemoved 95 = .ok (.invokevirtual 67, 3) := by decide +kernel
theorem dL_isRemoved_98 : decode cL_isRemoved 98 = .ok (.iastore, 1) := by decide +kernel
theorem dL_isRemoved_99 : decode cL_isRemoved 99 = .ok (.aload_n 0, 1) := by decide +kernel
theorem dL_isRemoved_100 : decode cL_isRemoved 100 = .ok (.iconst 2, 1) := by decide +kernel
theorem dL_isRemoved_101 : decode cL_isRemoved 101 = .ok (.iload 4, 2) := by decide +kernel
theorem dL_isRemoved_103 : decode cL_isRemoved 103 = .ok (.iload 5, 2) := by decide +kernel
theorem dL_isRemoved_105 : decode cL_isRemoved 105 = .ok (.iconst 0, 1) := by decide +kernel
theorem dL_isRemoved_106 : decode cL_isRemoved 106 = .ok (.iconst 0, 1) := by decide +kernel
theorem dL_isRemoved_107 : decode cL_isRemoved 107 = .ok (.invokestatic 92, 3) := by decide +kernel
theorem dL_isRemoved_110 : decode cL_isRemoved 110 = .ok (.iload 7, 2) := by decide +kernel
theorem dL_isRemoved_112 : decode cL_isRemoved 112 = .ok (.ifCond .eq 7, 3) := by decide +kernel
theorem dL_isRemoved_115 : decode cL_isRemoved 115 = .ok (.iconst 1, 1) := by decide +kernel
theorem dL_isRemoved_116 : decode cL_isRemoved 116 = .ok (.goto 4, 3) := by decide +kernel
theorem dL_isRemoved_119 : decode cL_isRemoved 119 = .ok (.iconst 0, 1) := by decide +kernel
theorem dL_isRemoved_120 : decode cL_isRemoved 120 = .ok (.if_icmp .ne 7, 3) := by decide +kernel
theorem dL_isRemoved_123 : decode cL_isRemoved 123 = .ok (.iconst 1, 1) := by decide +kernel
theorem dL_isRemoved_124 : decode cL_isRemoved 124 = .ok (.goto 4, 3) := by decide +kernel
theorem dL_isRemoved_127 : decode cL_isRemoved 127 = .ok (.iconst 0, 1) := by decide +kernel
theorem dL_isRemoved_128 : decode cL_isRemoved 128 = .ok (.ireturn, 1) := by decide +kernel
