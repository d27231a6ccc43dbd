set_option maxRecDepth 20000 in
theorem gL_law_L_rows : GoodIn wsL_law (va_wsS RL 153 yL_rows wsL_rows) := goodIn_app (goodIn_of _ (by decide +kernel)) ggL_law_L_rows
set_option maxRecDepth 20000 in
theorem ggL_law_L_colours : GoodIn wsL_law wsL_colours := goodIn_ca (goodIn_ca (goodIn_r _ [209, 27, 28, 24, 29, 61, 62, 63, 210, 211, 212, 67, 68, 213, 214, 215, 2, 216, 19, 217, 218, 219, 74, 75, 80, 81, 82, 83, 84, 85, 86, 87, 47, 48, 49, 220, 221, 222, 223, 20, 224, 225, 226, 227, 228, 229, 230, 21, 276, 277, 278, 279, 280, 281, 282, 283, 284, 285, 286, 287, 288, 289, 290] (by decide +kernel) (by decide +kernel)) (goodIn_sub (fun _ h => List.mem_append_left _ (List.mem_append_right _ h)) (by decide +kernel))) (goodIn_sub (fun _ h => List.mem_append_right _ h) (by decide +kernel))
set_option maxRecDepth 20000 in
theorem gL_law_L_colours : GoodIn wsL_law (va_wsS RL 157 yL_colours wsL_colours) := goodIn_app (goodIn_of _ (by decide +kernel)) ggL_law_L_colours
