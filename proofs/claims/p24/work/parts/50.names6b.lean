set_option maxRecDepth 20000 in
theorem hL_profiles_c : GoodIn wsL_law [.code yL_profiles cL_profiles 14 (some .boolean)] := goodIn_sub (fun w h => by rw [List.mem_singleton.mp h]; exact List.mem_of_getElem? (i := 57) rfl) (by decide +kernel)
set_option maxRecDepth 20000 in
theorem hL_profiles_r1 : GoodIn wsL_law wsL_profiles_r1 := goodIn_r _ [27, 28, 24, 29, 58, 59, 60, 61, 62, 63, 64, 65, 66, 67, 68, 69, 70, 71, 72, 2, 73, 74, 75, 11] (by decide +kernel) (by decide +kernel)
set_option maxRecDepth 20000 in
theorem hL_profiles_r2 : GoodIn wsL_law wsL_profiles_r2 := goodIn_r _ [76, 77, 78, 79, 39, 80, 81, 82, 83, 84, 85, 86, 87, 88, 89, 90, 91, 37, 38, 92, 93, 94, 95, 96] (by decide +kernel) (by decide +kernel)
set_option maxRecDepth 20000 in
theorem hL_profiles_r3 : GoodIn wsL_law wsL_profiles_r3 := goodIn_r _ [97, 98, 99, 100, 101, 102, 103, 16, 15, 104, 105, 106, 47, 48, 49, 107, 108, 109, 110, 111, 112, 113, 12, 13] (by decide +kernel) (by decide +kernel)
set_option maxRecDepth 20000 in
theorem hL_profiles_r4 : GoodIn wsL_law wsL_profiles_r4 := goodIn_r _ [114, 115, 116, 117, 118, 119, 120, 14, 121, 122, 123, 124, 125, 126, 127, 128, 54, 129, 130, 131, 132, 133, 134, 135] (by decide +kernel) (by decide +kernel)
set_option maxRecDepth 20000 in
theorem hL_profiles_r5 : GoodIn wsL_law wsL_profiles_r5 := goodIn_r _ [136, 17, 18, 137, 138, 139, 140, 141, 142, 143, 45, 144, 145, 146, 147, 40, 41, 42, 43, 44, 46, 148, 149, 150] (by decide +kernel) (by decide +kernel)
set_option maxRecDepth 20000 in
theorem hL_profiles_r6 : GoodIn wsL_law wsL_profiles_r6 := goodIn_r _ [151, 152, 153, 154, 155, 156, 157, 158, 159, 160, 161, 162, 163, 164, 165, 166, 167, 168, 169] (by decide +kernel) (by decide +kernel)
set_option maxRecDepth 20000 in
theorem hL_profiles_x : GoodIn wsL_law wsX00 := goodIn_r _ [276, 277, 278, 279, 280, 281, 282, 283, 284, 285, 286, 287, 288, 289, 290] (by decide +kernel) (by decide +kernel)
set_option maxRecDepth 20000 in
theorem ggL_law_L_profiles : GoodIn wsL_law wsL_profiles := goodIn_ca (goodIn_ca (goodIn_ca (goodIn_app (a := [.code yL_profiles cL_profiles 14 (some .boolean)]) hL_profiles_c (goodIn_app (goodIn_app hL_profiles_r1 (goodIn_app hL_profiles_r2 (goodIn_app hL_profiles_r3 (goodIn_app hL_profiles_r4 (goodIn_app hL_profiles_r5 (hL_profiles_r6)))))) hL_profiles_x)) (goodIn_sub (fun _ h => List.mem_append_left _ (List.mem_append_right _ h)) (by decide +kernel))) (goodIn_sub (fun _ h => List.mem_append_right _ h) (by decide +kernel))) (goodIn_sub (fun _ h => List.mem_append_left _ (List.mem_append_left _ (List.mem_append_right _ h))) (by decide +kernel))
