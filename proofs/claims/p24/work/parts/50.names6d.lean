set_option maxRecDepth 20000 in
theorem hL_rows_c : GoodIn wsL_law [.code yL_rows cL_rows 14 (some .boolean)] := goodIn_sub (fun w h => by rw [List.mem_singleton.mp h]; exact List.mem_of_getElem? (i := 172) rfl) (by decide +kernel)
set_option maxRecDepth 20000 in
theorem hL_rows_r1 : GoodIn wsL_law wsL_rows_r1 := goodIn_r _ [27, 28, 24, 29, 114, 115, 116, 67, 68, 69, 117, 118, 119, 2, 120, 86, 87, 14, 76, 77, 78, 79, 74, 75] (by decide +kernel) (by decide +kernel)
set_option maxRecDepth 20000 in
theorem hL_rows_r2 : GoodIn wsL_law wsL_rows_r2 := goodIn_r _ [39, 88, 89, 90, 91, 37, 38, 92, 93, 94, 95, 96, 97, 98, 99, 100, 101, 102, 103, 16, 15, 104, 105, 106] (by decide +kernel) (by decide +kernel)
set_option maxRecDepth 20000 in
theorem hL_rows_r3 : GoodIn wsL_law wsL_rows_r3 := goodIn_r _ [47, 48, 49, 121, 122, 123, 124, 125, 126, 127, 128, 54, 129, 130, 131, 132, 133, 134, 135, 136, 17, 18, 137, 83] (by decide +kernel) (by decide +kernel)
set_option maxRecDepth 20000 in
theorem hL_rows_r4 : GoodIn wsL_law wsL_rows_r4 := goodIn_r _ [84, 85, 138, 139, 140, 141, 142, 143, 45, 144, 145, 146, 147, 40, 41, 42, 43, 44, 46, 148, 149, 150, 151, 152] (by decide +kernel) (by decide +kernel)
set_option maxRecDepth 20000 in
theorem hL_rows_r5 : GoodIn wsL_law wsL_rows_r5 := goodIn_r _ [153, 154, 155, 12, 13, 156, 157, 158, 159, 11, 160, 161, 162, 163, 164, 165, 166, 167, 168, 169, 173, 174, 175, 176] (by decide +kernel) (by decide +kernel)
set_option maxRecDepth 20000 in
theorem hL_rows_r6 : GoodIn wsL_law wsL_rows_r6 := goodIn_r _ [177, 178, 179, 180, 181, 182, 183, 184, 185, 186, 187, 188, 189, 190, 191, 192, 193, 194, 3, 30, 31, 32, 195, 196] (by decide +kernel) (by decide +kernel)
set_option maxRecDepth 20000 in
theorem hL_rows_r7 : GoodIn wsL_law wsL_rows_r7 := goodIn_r _ [197, 198, 199, 200, 201, 202, 203, 204, 205, 206] (by decide +kernel) (by decide +kernel)
set_option maxRecDepth 20000 in
theorem hL_rows_x : GoodIn wsL_law wsX00 := goodIn_r _ [276, 277, 278, 279, 280, 281, 282, 283, 284, 285, 286, 287, 288, 289, 290] (by decide +kernel) (by decide +kernel)
set_option maxRecDepth 20000 in
theorem ggL_law_L_rows : GoodIn wsL_law wsL_rows := goodIn_ca (goodIn_ca (goodIn_ca (goodIn_app (a := [.code yL_rows cL_rows 14 (some .boolean)]) hL_rows_c (goodIn_app (goodIn_app hL_rows_r1 (goodIn_app hL_rows_r2 (goodIn_app hL_rows_r3 (goodIn_app hL_rows_r4 (goodIn_app hL_rows_r5 (goodIn_app hL_rows_r6 (hL_rows_r7))))))) hL_rows_x)) (goodIn_sub (fun _ h => List.mem_append_right _ h) (by decide +kernel))) (goodIn_sub (fun _ h => List.mem_append_left _ (List.mem_append_right _ h)) (by decide +kernel))) (goodIn_sub (fun _ h => List.mem_append_left _ (List.mem_append_left _ (List.mem_append_right _ h))) (by decide +kernel))
