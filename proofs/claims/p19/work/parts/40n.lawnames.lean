set_option maxRecDepth 20000 in
theorem ggL_law_L_isRound : GoodIn wsL_law wsL_isRound := goodIn_ca (goodIn_ca (goodIn_r _ [274, 110, 111, 112, 2, 113, 114, 75, 76, 77, 78, 79, 80, 11, 275, 276, 54, 277, 179, 180, 181, 182, 14, 183, 184, 185, 13, 186, 27, 28, 29, 30, 31, 32, 34, 187, 188, 189, 190, 26, 115, 116, 117, 118, 119, 191, 192, 193, 194, 161, 162, 195, 196, 197, 198, 199, 200, 201, 202, 203, 21, 204, 205, 206, 207, 20, 208, 209, 210, 211, 212, 39, 213, 214, 40, 41, 215, 216, 217, 218, 219, 220, 25, 221, 222, 223, 224, 225, 154, 155, 24, 156, 48, 49, 50, 51, 226, 169, 170, 171, 227, 228, 229, 230, 231, 150, 151, 152, 43, 232, 233, 234, 235, 65, 66, 67, 68, 98, 99, 100, 101, 97, 73, 74, 102, 103, 104, 105, 106, 107, 108, 109, 289, 290, 291, 292, 293, 294, 295, 296, 297, 298, 287, 288, 299, 300, 301, 302, 303, 304, 305, 306, 307, 308] (by decide +kernel) (by decide +kernel)) (goodIn_sub (fun _ h => List.mem_append_left _ (List.mem_append_right _ h)) (by decide +kernel))) (goodIn_sub (fun _ h => List.mem_append_right _ h) (by decide +kernel))
set_option maxRecDepth 20000 in
theorem gL_law_L_isRound : GoodIn wsL_law (va_wsS RL 99 yL_isRound wsL_isRound) := goodIn_app (goodIn_of _ (by decide +kernel)) ggL_law_L_isRound
set_option maxRecDepth 20000 in
theorem ggL_law_X3_mark : GoodIn wsL_law wsX3_mark := goodIn_ca (goodIn_r _ [113, 114, 75, 76, 77, 2, 78, 79, 80, 11, 289, 290, 291, 292, 293, 294, 295, 296, 297, 298, 287, 288] (by decide +kernel) (by decide +kernel)) (goodIn_sub (fun _ h => List.mem_append_left _ (List.mem_append_right _ h)) (by decide +kernel))
set_option maxRecDepth 20000 in
theorem gL_law_X3_mark : GoodIn wsL_law (wsV RL 48 RX3 yX3_mark wsX3_mark) := goodIn_app (goodIn_of _ (by decide +kernel)) ggL_law_X3_mark
set_option maxRecDepth 20000 in
theorem ggL_law_X3_open : GoodIn wsL_law wsX3_open := goodIn_ca (goodIn_r _ [182, 14, 75, 76, 77, 2, 78, 79, 80, 11, 183, 184, 185, 13, 186, 27, 28, 29, 30, 31, 32, 34, 187, 188, 189, 190, 26, 287, 288, 289, 290, 291, 292, 293, 294, 295, 296, 297, 298] (by decide +kernel) (by decide +kernel)) (goodIn_sub (fun _ h => List.mem_append_left _ (List.mem_append_right _ h)) (by decide +kernel))
set_option maxRecDepth 20000 in
theorem gL_law_X3_open : GoodIn wsL_law (wsV RL 37 RX3 yX3_open wsX3_open) := goodIn_app (goodIn_of _ (by decide +kernel)) ggL_law_X3_open
