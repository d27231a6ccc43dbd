set_option maxRecDepth 20000 in
theorem hL_asks_c : GoodIn wsL_law [.code yL_asks cL_asks 20 (some .boolean)] := goodIn_sub (fun w h => by rw [List.mem_singleton.mp h]; exact List.mem_of_getElem? (i := 233) rfl) (by decide +kernel)
set_option maxRecDepth 20000 in
theorem hL_asks_r1 : GoodIn wsL_law wsL_asks_r1 := goodIn_r _ [61, 62, 24, 63, 27, 28, 29, 234, 235, 236, 67, 68, 69, 237, 238, 239, 2, 240, 76, 77, 78, 79, 74, 75] (by decide +kernel) (by decide +kernel)
set_option maxRecDepth 20000 in
theorem hL_asks_r2 : GoodIn wsL_law wsL_asks_r2 := goodIn_r _ [39, 80, 81, 82, 83, 84, 85, 86, 87, 156, 157, 158, 159, 11, 160, 161, 162, 104, 105, 106, 163, 164, 165, 166] (by decide +kernel) (by decide +kernel)
set_option maxRecDepth 20000 in
theorem hL_asks_r3 : GoodIn wsL_law wsL_asks_r3 := goodIn_r _ [241, 242, 243, 244, 152, 153, 154, 155, 12, 13, 14, 43, 44, 45, 46, 145, 146, 147, 167, 168, 169, 245, 246, 247] (by decide +kernel) (by decide +kernel)
set_option maxRecDepth 20000 in
theorem hL_asks_r4 : GoodIn wsL_law wsL_asks_r4 := goodIn_r _ [248, 125, 126, 127, 128, 54, 148, 149, 150, 151, 16, 15, 249, 250, 251, 252, 37, 38, 137, 17, 97, 98, 99, 201] (by decide +kernel) (by decide +kernel)
set_option maxRecDepth 20000 in
theorem hL_asks_r5 : GoodIn wsL_law wsL_asks_r5 := goodIn_r _ [202, 203, 30, 31, 32, 198, 199, 200, 195, 196, 197, 253, 254, 255, 256, 257, 258, 259, 260, 40, 41, 42, 261, 93] (by decide +kernel) (by decide +kernel)
set_option maxRecDepth 20000 in
theorem hL_asks_r6 : GoodIn wsL_law wsL_asks_r6 := goodIn_r _ [94, 95, 96, 100, 101, 102, 103, 58, 59, 60, 262, 263, 264, 265, 266, 267, 268, 217, 218, 219, 269, 270, 271, 272] (by decide +kernel) (by decide +kernel)
set_option maxRecDepth 20000 in
theorem hL_asks_r7 : GoodIn wsL_law wsL_asks_r7 := goodIn_r _ [19, 21, 20, 173, 174, 175, 176, 177, 178, 179, 129, 130, 131, 132, 47, 48, 49, 180, 181, 182, 183, 184, 185, 186] (by decide +kernel) (by decide +kernel)
set_option maxRecDepth 20000 in
theorem hL_asks_r8 : GoodIn wsL_law wsL_asks_r8 := goodIn_r _ [187, 138, 139, 140, 141, 18, 142, 143, 144, 188, 189, 190, 191, 192, 193, 194, 3, 204, 205, 206, 273, 274, 275] (by decide +kernel) (by decide +kernel)
set_option maxRecDepth 20000 in
theorem hL_asks_x : GoodIn wsL_law wsX00 := goodIn_r _ [276, 277, 278, 279, 280, 281, 282, 283, 284, 285, 286, 287, 288, 289, 290] (by decide +kernel) (by decide +kernel)
set_option maxRecDepth 20000 in
theorem ggL_law_L_asks : GoodIn wsL_law wsL_asks := goodIn_ca (goodIn_ca (goodIn_ca (goodIn_app (a := [.code yL_asks cL_asks 20 (some .boolean)]) hL_asks_c (goodIn_app (goodIn_app hL_asks_r1 (goodIn_app hL_asks_r2 (goodIn_app hL_asks_r3 (goodIn_app hL_asks_r4 (goodIn_app hL_asks_r5 (goodIn_app hL_asks_r6 (goodIn_app hL_asks_r7 (hL_asks_r8)))))))) hL_asks_x)) (goodIn_sub (fun _ h => List.mem_append_left _ (List.mem_append_right _ h)) (by decide +kernel))) (goodIn_sub (fun _ h => List.mem_append_right _ h) (by decide +kernel))) (goodIn_sub (fun _ h => List.mem_append_left _ (List.mem_append_left _ (List.mem_append_right _ h))) (by decide +kernel))
