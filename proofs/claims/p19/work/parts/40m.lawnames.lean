set_option maxRecDepth 20000 in
theorem ggL_law_L_dice : GoodIn wsL_law wsL_dice := goodIn_r _ [260, 261, 262] (by decide +kernel) (by decide +kernel)
set_option maxRecDepth 20000 in
theorem gL_law_L_dice : GoodIn wsL_law (va_wsS RL 108 yL_dice wsL_dice) := goodIn_app (goodIn_of _ (by decide +kernel)) ggL_law_L_dice
set_option maxRecDepth 20000 in
theorem ggL_law_X3_today : GoodIn wsL_law wsX3_today := goodIn_r _ [68, 14, 287, 288] (by decide +kernel) (by decide +kernel)
set_option maxRecDepth 20000 in
theorem gL_law_X3_today : GoodIn wsL_law (wsV RL 67 RX3 yX3_today wsX3_today) := goodIn_app (goodIn_of _ (by decide +kernel)) ggL_law_X3_today
set_option maxRecDepth 20000 in
theorem ggL_law_L_clear : GoodIn wsL_law wsL_clear := goodIn_r _ [265] (by decide +kernel) (by decide +kernel)
set_option maxRecDepth 20000 in
theorem gL_law_L_clear : GoodIn wsL_law (va_wsS RL 112 yL_clear wsL_clear) := goodIn_app (goodIn_of _ (by decide +kernel)) ggL_law_L_clear
set_option maxRecDepth 20000 in
theorem ggL_law_L_far : GoodIn wsL_law wsL_far := goodIn_ca (goodIn_ca (goodIn_r _ [122, 123, 124, 125, 126, 127, 2, 128, 73, 129, 130, 14, 75, 76, 77, 78, 79, 80, 11, 131, 132, 133, 134, 135, 136, 20, 137, 42, 44, 40, 138, 139, 140, 141, 142, 143, 144, 145, 146, 147, 148, 39, 149, 150, 151, 152, 43, 153, 154, 155, 24, 156, 48, 49, 50, 51, 157, 158, 159, 160, 161, 162, 74, 163, 164, 165, 166, 167, 41, 168, 169, 170, 171, 172, 173, 174, 175, 69, 70, 71, 72, 81, 82, 83, 84, 85, 86, 87, 88, 89, 90, 91, 92, 289, 290, 291, 292, 293, 294, 295, 296, 297, 298, 299, 300, 301, 302, 303, 304, 287, 288, 305, 306, 307, 308] (by decide +kernel) (by decide +kernel)) (goodIn_sub (fun _ h => List.mem_append_left _ (List.mem_append_right _ h)) (by decide +kernel))) (goodIn_sub (fun _ h => List.mem_append_right _ h) (by decide +kernel))
set_option maxRecDepth 20000 in
theorem gL_law_L_far : GoodIn wsL_law (va_wsS RL 92 yL_far wsL_far) := goodIn_app (goodIn_of _ (by decide +kernel)) ggL_law_L_far
set_option maxRecDepth 20000 in
theorem ggL_law_L_isPut : GoodIn wsL_law wsL_isPut := goodIn_ca (goodIn_r _ [268, 65, 66, 67, 2, 68, 14, 138, 139, 140, 141, 73, 75, 76, 77, 78, 79, 80, 11, 142, 143, 144, 131, 132, 133, 145, 146, 147, 20, 148, 39, 40, 149, 150, 151, 152, 43, 153, 154, 155, 24, 156, 48, 49, 50, 51, 287, 288, 289, 290, 291, 292, 293, 294, 295, 296, 297, 298, 299, 300, 301, 302, 303, 304, 305, 306, 307, 308] (by decide +kernel) (by decide +kernel)) (goodIn_sub (fun _ h => List.mem_append_left _ (List.mem_append_right _ h)) (by decide +kernel))
set_option maxRecDepth 20000 in
theorem gL_law_L_isPut : GoodIn wsL_law (va_wsS RL 116 yL_isPut wsL_isPut) := goodIn_app (goodIn_of _ (by decide +kernel)) ggL_law_L_isPut
set_option maxRecDepth 20000 in
theorem ggL_law_L_isRemoved : GoodIn wsL_law wsL_isRemoved := goodIn_ca (goodIn_ca (goodIn_r _ [271, 120, 121, 54, 122, 123, 124, 125, 126, 127, 2, 128, 73, 129, 130, 14, 75, 76, 77, 78, 79, 80, 11, 131, 132, 133, 134, 135, 136, 20, 137, 42, 44, 40, 138, 139, 140, 141, 142, 143, 144, 145, 146, 147, 148, 39, 149, 150, 151, 152, 43, 153, 154, 155, 24, 156, 48, 49, 50, 51, 157, 158, 159, 160, 161, 162, 74, 163, 164, 165, 166, 167, 41, 168, 169, 170, 171, 172, 173, 174, 175, 69, 70, 71, 72, 81, 82, 83, 84, 85, 86, 87, 88, 89, 90, 91, 92, 65, 66, 67, 68, 289, 290, 291, 292, 293, 294, 295, 296, 297, 298, 299, 300, 301, 302, 303, 304, 287, 288, 305, 306, 307, 308] (by decide +kernel) (by decide +kernel)) (goodIn_sub (fun _ h => List.mem_append_left _ (List.mem_append_right _ h)) (by decide +kernel))) (goodIn_sub (fun _ h => List.mem_append_right _ h) (by decide +kernel))
set_option maxRecDepth 20000 in
theorem gL_law_L_isRemoved : GoodIn wsL_law (va_wsS RL 120 yL_isRemoved wsL_isRemoved) := goodIn_app (goodIn_of _ (by decide +kernel)) ggL_law_L_isRemoved
