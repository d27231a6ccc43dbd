theorem dL_rows_474 : decode cL_rows 474 = .ok (.idiv, 1) := by decide +kernel
theorem dL_rows_475 : decode cL_rows 475 = .ok (.iload 13, 2) := by decide +kernel
theorem dL_rows_477 : decode cL_rows 477 = .ok (.iconst 5, 1) := by decide +kernel
theorem dL_rows_478 : decode cL_rows 478 = .ok (.irem, 1) := by decide +kernel
theorem dL_rows_479 : decode cL_rows 479 = .ok (.invokestatic 9, 3) := by decide +kernel
theorem dL_rows_482 : decode cL_rows 482 = .ok (.invokestatic 23, 3) := by decide +kernel
theorem dL_rows_485 : decode cL_rows 485 = .ok (.iastore, 1) := by decide +kernel
theorem dL_rows_486 : decode cL_rows 486 = .ok (.aload_n 3, 1) := by decide +kernel
theorem dL_rows_487 : decode cL_rows 487 = .ok (.iconst 4, 1) := by decide +kernel
theorem dL_rows_488 : decode cL_rows 488 = .ok (.iload 8, 2) := by decide +kernel
theorem dL_rows_490 : decode cL_rows 490 = .ok (.iadd, 1) := by decide +kernel
theorem dL_rows_491 : decode cL_rows 491 = .ok (.iconst 1, 1) := by decide +kernel
theorem dL_rows_492 : decode cL_rows 492 = .ok (.iastore, 1) := by decide +kernel
theorem dL_rows_493 : decode cL_rows 493 = .ok (.iinc 13 1, 3) := by decide +kernel
theorem dL_rows_496 : decode cL_rows 496 = .ok (.goto (-56), 3) := by decide +kernel
theorem dL_rows_499 : decode cL_rows 499 = .ok (.aload_n 0, 1) := by decide +kernel
theorem dL_rows_500 : decode cL_rows 500 = .ok (.iconst 2, 1) := by decide +kernel
theorem dL_rows_501 : decode cL_rows 501 = .ok (.iload 8, 2) := by decide +kernel
theorem dL_rows_503 : decode cL_rows 503 = .ok (.iload 10, 2) := by decide +kernel
theorem dL_rows_505 : decode cL_rows 505 = .ok (.invokestatic 108, 3) := by decide +kernel
theorem dL_rows_508 : decode cL_rows 508 = .ok (.iload 12, 2) := by decide +kernel
theorem dL_rows_510 : decode cL_rows 510 = .ok (.if_icmp .ne 7, 3) := by decide +kernel
theorem dL_rows_513 : decode cL_rows 513 = .ok (.iconst 1, 1) := by decide +kernel
theorem dL_rows_514 : decode cL_rows 514 = .ok (.goto 4, 3) := by decide +kernel
theorem dL_rows_517 : decode cL_rows 517 = .ok (.iconst 0, 1) := by decide +kernel
theorem dL_rows_518 : decode cL_rows 518 = .ok (.ireturn, 1) := by decide +kernel
set_option maxRecDepth 20000 in
theorem ggL_colours_L_some : GoodIn wsL_colours wsL_some := goodIn_r _ [4] (by decide +kernel) (by decide +kernel)
set_option maxRecDepth 20000 in
theorem gL_colours_L_some : GoodIn wsL_colours (va_wsS RL 91 yL_some wsL_some) := goodIn_app (goodIn_of _ (by decide +kernel)) ggL_colours_L_some
set_option maxRecDepth 20000 in
theorem ggL_colours_L_value : GoodIn wsL_colours wsL_value := goodIn_r _ [7, 1, 2, 3, 4] (by decide +kernel) (by decide +kernel)
set_option maxRecDepth 20000 in
theorem gL_colours_L_value : GoodIn wsL_colours (va_wsS RL 98 yL_value wsL_value) := goodIn_app (goodIn_of _ (by decide +kernel)) ggL_colours_L_value
set_option maxRecDepth 20000 in
theorem ggL_colours_L_paints : GoodIn wsL_colours wsL_paints := goodIn_ca (goodIn_ca (goodIn_r _ [10, 11, 12, 13, 14, 15, 16, 17, 18, 19, 20, 21, 22, 23, 24, 25, 26, 27, 28, 29, 30, 31, 32, 33, 34, 35, 36, 37, 38, 39, 40, 41, 42, 43, 44, 45, 46, 47, 48, 49, 50, 51, 52, 53, 54, 55, 56, 57, 58, 59, 60, 61, 62] (by decide +kernel) (by decide +kernel)) (goodIn_sub (fun _ h => List.mem_cons_of_mem _ (List.mem_append_left _ (List.mem_append_right _ h))) (by decide +kernel))) (goodIn_sub (fun _ h => List.mem_cons_of_mem _ (List.mem_append_right _ h)) (by decide +kernel))
set_option maxRecDepth 20000 in
theorem gL_colours_L_paints : GoodIn wsL_colours (va_wsS RL 119 yL_paints wsL_paints) := goodIn_app (goodIn_of _ (by decide +kernel)) ggL_colours_L_paints
theorem dL_colours_0 : decode cL_colours 0 = .ok (.iload_n 2, 1) := by decide +kernel
theorem dL_colours_1 : decode cL_colours 1 = .ok (.bipush 30, 2) := by decide +kernel
theorem dL_colours_3 : decode cL_colours 3 = .ok (.invokestatic 91, 3) := by decide +kernel
theorem dL_colours_6 : decode cL_colours 6 = .ok (.ifCond .ne 17, 3) := by decide +kernel
theorem dL_colours_9 : decode cL_colours 9 = .ok (.iload_n 1, 1) := by decide +kernel
theorem dL_colours_10 : decode cL_colours 10 = .ok (.iconst 2, 1) := by decide +kernel
theorem dL_colours_11 : decode cL_colours 11 = .ok (.if_icmp .ne 7, 3) := by decide +kernel
theorem dL_colours_14 : decode cL_colours 14 = .ok (.iconst 3, 1) := by decide +kernel
theorem dL_colours_15 : decode cL_colours 15 = .ok (.goto 22, 3) := by decide +kernel
theorem dL_colours_18 : decode cL_colours 18 = .ok (.bipush 6, 2) := by decide +kernel
theorem dL_colours_20 : decode cL_colours 20 = .ok (.goto 17, 3) := by decide +kernel
theorem dL_colours_23 : decode cL_colours 23 = .ok (.iload_n 2, 1) := by decide +kernel
theorem dL_colours_24 : decode cL_colours 24 = .ok (.iload_n 1, 1) := by decide +kernel
theorem dL_colours_25 : decode cL_colours 25 = .ok (.iconst 2, 1) := by decide +kernel
theorem dL_colours_26 : decode cL_colours 26 = .ok (.if_icmp .ne 7, 3) := by decide +kernel
theorem dL_colours_29 : decode cL_colours 29 = .ok (.iconst 3, 1) := by decide +kernel
theorem dL_colours_30 : decode cL_colours 30 = .ok (.goto 4, 3) := by decide +kernel
theorem dL_colours_33 : decode cL_colours 33 = .ok (.iconst 2, 1) := by decide +kernel
theorem dL_colours_34 : decode cL_colours 34 = .ok (.invokestatic 91, 3) := by decide +kernel
theorem dL_colours_37 : decode cL_colours 37 = .ok (.istore 4, 2) := by decide +kernel
theorem dL_colours_39 : decode cL_colours 39 = .ok (.iload_n 2, 1) := by decide +kernel
theorem dL_colours_40 : decode cL_colours 40 = .ok (.iconst 4, 1) := by decide +kernel
theorem dL_colours_41 : decode cL_colours 41 = .ok (.ishr, 1) := by decide +kernel
theorem dL_colours_42 : decode cL_colours 42 = .ok (.bipush 30, 2) := by decide +kernel
theorem dL_colours_44 : decode cL_colours 44 = .ok (.invokestatic 91, 3) := by decide +kernel
theorem dL_colours_47 : decode cL_colours 47 = .ok (.ifCond .ne 7, 3) := by decide +kernel
theorem dL_colours_50 : decode cL_colours 50 = .ok (.iconst (-1), 1) := by decide +kernel
theorem dL_colours_51 : decode cL_colours 51 = .ok (.goto 10, 3) := by decide +kernel
theorem dL_colours_54 : decode cL_colours 54 = .ok (.iload_n 2, 1) := by decide +kernel
theorem dL_colours_55 : decode cL_colours 55 = .ok (.iconst 4, 1) := by decide +kernel
theorem dL_colours_56 : decode cL_colours 56 = .ok (.ishr, 1) := by decide +kernel
theorem dL_colours_57 : decode cL_colours 57 = .ok (.iconst 3, 1) := by decide +kernel
theorem dL_colours_58 : decode cL_colours 58 = .ok (.invokestatic 91, 3) := by decide +kernel
theorem dL_colours_61 : decode cL_colours 61 = .ok (.istore 5, 2) := by decide +kernel
theorem dL_colours_63 : decode cL_colours 63 = .ok (.iload_n 2, 1) := by decide +kernel
theorem dL_colours_64 : decode cL_colours 64 = .ok (.iconst 5, 1) := by decide +kernel
theorem dL_colours_65 : decode cL_colours 65 = .ok (.ishr, 1) := by decide +kernel
theorem dL_colours_66 : decode cL_colours 66 = .ok (.invokestatic 98, 3) := by decide +kernel
theorem dL_colours_69 : decode cL_colours 69 = .ok (.istore 6, 2) := by decide +kernel
theorem dL_colours_71 : decode cL_colours 71 = .ok (.iload 5, 2) := by decide +kernel
theorem dL_colours_73 : decode cL_colours 73 = .ok (.ifCond .lt 23, 3) := by decide +kernel
theorem dL_colours_76 : decode cL_colours 76 = .ok (.iload 4, 2) := by decide +kernel
theorem dL_colours_78 : decode cL_colours 78 = .ok (.iload_n 1, 1) := by decide +kernel
theorem dL_colours_79 : decode cL_colours 79 = .ok (.iconst 2, 1) := by decide +kernel
theorem dL_colours_80 : decode cL_colours 80 = .ok (.if_icmp .ne 7, 3) := by decide +kernel
theorem dL_colours_83 : decode cL_colours 83 = .ok (.iconst 3, 1) := by decide +kernel
theorem dL_colours_84 : decode cL_colours 84 = .ok (.goto 5, 3) := by decide +kernel
theorem dL_colours_87 : decode cL_colours 87 = .ok (.bipush 6, 2) := by decide +kernel
theorem dL_colours_89 : decode cL_colours 89 = .ok (.if_icmp .ge 7, 3) := by decide +kernel
theorem dL_colours_92 : decode cL_colours 92 = .ok (.iconst 1, 1) := by decide +kernel
theorem dL_colours_93 : decode cL_colours 93 = .ok (.goto 4, 3) := by decide +kernel
theorem dL_colours_96 : decode cL_colours 96 = .ok (.iconst 0, 1) := by decide +kernel
theorem dL_colours_97 : decode cL_colours 97 = .ok (.istore 7, 2) := by decide +kernel
theorem dL_colours_99 : decode cL_colours 99 = .ok (.bipush 6, 2) := by decide +kernel
theorem dL_colours_101 : decode cL_colours 101 = .ok (.iload_n 1, 1) := by decide +kernel
theorem dL_colours_102 : decode cL_colours 102 = .ok (.imul, 1) := by decide +kernel
theorem dL_colours_103 : decode cL_colours 103 = .ok (.iconst 3, 1) := by decide +kernel
theorem dL_colours_104 : decode cL_colours 104 = .ok (.iload 4, 2) := by decide +kernel
theorem dL_colours_106 : decode cL_colours 106 = .ok (.imul, 1) := by decide +kernel
theorem dL_colours_107 : decode cL_colours 107 = .ok (.iadd, 1) := by decide +kernel
theorem dL_colours_108 : decode cL_colours 108 = .ok (.iload 5, 2) := by decide +kernel
theorem dL_colours_110 : decode cL_colours 110 = .ok (.iadd, 1) := by decide +kernel
theorem dL_colours_111 : decode cL_colours 111 = .ok (.istore 8, 2) := by decide +kernel
theorem dL_colours_113 : decode cL_colours 113 = .ok (.iload 7, 2) := by decide +kernel
theorem dL_colours_115 : decode cL_colours 115 = .ok (.ifCond .ne 8, 3) := by decide +kernel
theorem dL_colours_118 : decode cL_colours 118 = .ok (.bipush (-101), 2) := by decide +kernel
theorem dL_colours_120 : decode cL_colours 120 = .ok (.goto 25, 3) := by decide +kernel
theorem dL_colours_123 : decode cL_colours 123 = .ok (.iload 6, 2) := by decide +kernel
theorem dL_colours_125 : decode cL_colours 125 = .ok (.ifCond .lt 11, 3) := by decide +kernel
theorem dL_colours_128 : decode cL_colours 128 = .ok (.iload 6, 2) := by decide +kernel
theorem dL_colours_130 : decode cL_colours 130 = .ok (.sipush 255, 3) := by decide +kernel
theorem dL_colours_133 : decode cL_colours 133 = .ok (.if_icmp .le 8, 3) := by decide +kernel
theorem dL_colours_136 : decode cL_colours 136 = .ok (.bipush (-102), 2) := by decide +kernel
theorem dL_colours_138 : decode cL_colours 138 = .ok (.goto 7, 3) := by decide +kernel
theorem dL_colours_141 : decode cL_colours 141 = .ok (.aload_n 3, 1) := by decide +kernel
theorem dL_colours_142 : decode cL_colours 142 = .ok (.iload 8, 2) := by decide +kernel
theorem dL_colours_144 : decode cL_colours 144 = .ok (.iaload, 1) := by decide +kernel
theorem dL_colours_145 : decode cL_colours 145 = .ok (.istore 9, 2) := by decide +kernel
theorem dL_colours_147 : decode cL_colours 147 = .ok (.iload 9, 2) := by decide +kernel
theorem dL_colours_149 : decode cL_colours 149 = .ok (.ifCond .lt 9, 3) := by decide +kernel
theorem dL_colours_152 : decode cL_colours 152 = .ok (.aload_n 3, 1) := by decide +kernel
theorem dL_colours_153 : decode cL_colours 153 = .ok (.iload 8, 2) := by decide +kernel
theorem dL_colours_155 : decode cL_colours 155 = .ok (.iload 6, 2) := by decide +kernel
theorem dL_colours_157 : decode cL_colours 157 = .ok (.iastore, 1) := by decide +kernel
theorem dL_colours_158 : decode cL_colours 158 = .ok (.aload_n 0, 1) := by decide +kernel
theorem dL_colours_159 : decode cL_colours 159 = .ok (.iload_n 1, 1) := by decide +kernel
theorem dL_colours_160 : decode cL_colours 160 = .ok (.iload 4, 2) := by decide +kernel
theorem dL_colours_162 : decode cL_colours 162 = .ok (.iload 5, 2) := by decide +kernel
theorem dL_colours_164 : decode cL_colours 164 = .ok (.iload 6, 2) := by decide +kernel
theorem dL_colours_166 : decode cL_colours 166 = .ok (.invokestatic 119, 3) := by decide +kernel
theorem dL_colours_169 : decode cL_colours 169 = .ok (.iload 9, 2) := by decide +kernel
theorem dL_colours_171 : decode cL_colours 171 = .ok (.if_icmp .ne 7, 3) := by decide +kernel
theorem dL_colours_174 : decode cL_colours 174 = .ok (.iconst 1, 1) := by decide +kernel
theorem dL_colours_175 : decode cL_colours 175 = .ok (.goto 4, 3) := by decide +kernel
theorem dL_colours_178 : decode cL_colours 178 = .ok (.iconst 0, 1) := by decide +kernel
theorem dL_colours_179 : decode cL_colours 179 = .ok (.ireturn, 1) := by decide +kernel
set_option maxRecDepth 20000 in
theorem ggL_asks_L_value : GoodIn wsL_asks wsL_value := goodIn_r _ [4, 5, 6, 3, 7] (by decide +kernel) (by decide +kernel)
set_option maxRecDepth 20000 in
theorem gL_asks_L_value : GoodIn wsL_asks (va_wsS RL 98 yL_value wsL_value) := goodIn_app (goodIn_of _ (by decide +kernel)) ggL_asks_L_value
set_option maxRecDepth 20000 in
theorem ggL_asks_L_of : GoodIn wsL_asks wsL_of := goodIn_ca (goodIn_ca (goodIn_ca (goodIn_r _ [10, 11, 12, 13, 14, 15, 16, 17, 18, 19, 20, 21, 22, 23, 24, 25, 26, 27, 28, 29, 30, 31, 32, 33, 34, 35, 36, 37, 38, 39, 40, 41, 42, 43, 44, 45, 46, 47, 48, 49, 50, 51, 52, 53, 54, 55, 56, 57, 58, 59, 60, 61, 62, 63, 64, 65, 66, 67, 68, 69, 70, 71, 72, 73, 74, 75, 76, 77, 78, 79, 80, 81, 82, 83, 84, 85, 86, 87, 88, 89, 90, 91, 92, 93, 94, 95, 192, 193, 194, 195, 196, 197, 198, 199, 200, 201, 202, 203, 204, 205, 206] (by decide +kernel) (by decide +kernel)) (goodIn_sub (fun _ h => List.mem_cons_of_mem _ (List.mem_append_left _ (List.mem_append_left _ (List.mem_append_right _ h)))) (by decide +kernel))) (goodIn_sub (fun _ h => List.mem_cons_of_mem _ (List.mem_append_left _ (List.mem_append_right _ h))) (by decide +kernel))) (goodIn_sub (fun _ h => List.mem_cons_of_mem _ (List.mem_append_right _ h)) (by decide +kernel))
set_option maxRecDepth 20000 in
theorem gL_asks_L_of : GoodIn wsL_asks (va_wsS RL 122 yL_of wsL_of) := goodIn_app (goodIn_of _ (by decide +kernel)) ggL_asks_L_of
set_option maxRecDepth 20000 in
theorem ggL_asks_L_between : GoodIn wsL_asks wsL_between := goodIn_r _ [98, 99, 100, 3, 101] (by decide +kernel) (by decide +kernel)
set_option maxRecDepth 20000 in
theorem gL_asks_L_between : GoodIn wsL_asks (va_wsS RL 15 yL_between wsL_between) := goodIn_app (goodIn_of _ (by decide +kernel)) ggL_asks_L_between
set_option maxRecDepth 20000 in
theorem ggL_asks_L_taken : GoodIn wsL_asks wsL_taken := goodIn_r _ [104, 96, 97, 3, 98, 99, 100, 101] (by decide +kernel) (by decide +kernel)
set_option maxRecDepth 20000 in
theorem gL_asks_L_taken : GoodIn wsL_asks (va_wsS RL 19 yL_taken wsL_taken) := goodIn_app (goodIn_of _ (by decide +kernel)) ggL_asks_L_taken
set_option maxRecDepth 20000 in
theorem ggL_asks_L_through : GoodIn wsL_asks wsL_through := goodIn_r _ [107, 102, 103, 3, 104, 96, 97, 98, 99, 100, 101] (by decide +kernel) (by decide +kernel)
set_option maxRecDepth 20000 in
theorem gL_asks_L_through : GoodIn wsL_asks (va_wsS RL 23 yL_through wsL_through) := goodIn_app (goodIn_of _ (by decide +kernel)) ggL_asks_L_through
set_option maxRecDepth 20000 in
theorem ggL_asks_L_at : GoodIn wsL_asks wsL_at := goodIn_r _ [101] (by decide +kernel) (by decide +kernel)
set_option maxRecDepth 20000 in
theorem gL_asks_L_at : GoodIn wsL_asks (va_wsS RL 9 yL_at wsL_at) := goodIn_app (goodIn_of _ (by decide +kernel)) ggL_asks_L_at
set_option maxRecDepth 20000 in
theorem ggL_asks_L_some : GoodIn wsL_asks wsL_some := goodIn_r _ [7] (by decide +kernel) (by decide +kernel)
set_option maxRecDepth 20000 in
theorem gL_asks_L_some : GoodIn wsL_asks (va_wsS RL 91 yL_some wsL_some) := goodIn_app (goodIn_of _ (by decide +kernel)) ggL_asks_L_some
set_option maxRecDepth 20000 in
theorem ggL_asks_X0_stale : GoodIn wsL_asks wsX0_stale := goodIn_r _ [111, 91, 93, 94, 17, 95, 112, 113, 114, 115, 92, 42, 43, 44, 116, 117, 118, 60, 61, 62, 63, 79, 80, 81, 82, 83, 84, 53, 54, 55, 56, 57, 58, 59, 64, 65, 66, 34, 35, 36, 37, 38, 39, 40, 41, 45, 46, 47, 48, 67, 68, 69, 192, 193, 194, 195, 196, 197, 198, 199, 200, 201, 202, 203, 204, 205, 206] (by decide +kernel) (by decide +kernel)
set_option maxRecDepth 20000 in
theorem gL_asks_X0_stale : GoodIn wsL_asks (wsV RL 125 RX0 yX0_stale wsX0_stale) := goodIn_app (goodIn_of _ (by decide +kernel)) ggL_asks_X0_stale
set_option maxRecDepth 20000 in
theorem ggL_asks_X0_held : GoodIn wsL_asks wsX0_held := goodIn_r _ [122, 123, 93, 94, 17, 95, 124, 125, 126, 127, 83, 84, 42, 43, 44, 192, 193, 194, 195, 196, 197, 198, 199, 200, 201, 202, 203, 204, 205, 206] (by decide +kernel) (by decide +kernel)
set_option maxRecDepth 20000 in
theorem gL_asks_X0_held : GoodIn wsL_asks (wsV RL 129 RX0 yX0_held wsX0_held) := goodIn_app (goodIn_of _ (by decide +kernel)) ggL_asks_X0_held
set_option maxRecDepth 20000 in
theorem ggL_asks_L_held : GoodIn wsL_asks wsL_held := goodIn_r _ [130] (by decide +kernel) (by decide +kernel)
set_option maxRecDepth 20000 in
theorem gL_asks_L_held : GoodIn wsL_asks (va_wsS RL 94 yL_held wsL_held) := goodIn_app (goodIn_of _ (by decide +kernel)) ggL_asks_L_held
set_option maxRecDepth 20000 in
theorem ggL_asks_L_shows : GoodIn wsL_asks wsL_shows := goodIn_ca (goodIn_ca (goodIn_r _ [133, 11, 12, 134, 135, 136, 17, 137, 32, 33, 74, 75, 76, 77, 23, 24, 78, 138, 139, 140, 26, 27, 28, 141, 142, 143, 144, 145, 146, 147, 60, 61, 62, 63, 42, 43, 44, 93, 94, 95, 79, 80, 81, 82, 83, 84, 53, 54, 55, 56, 57, 58, 59, 64, 65, 66, 34, 35, 36, 37, 38, 39, 40, 41, 45, 46, 47, 48, 67, 68, 69, 192, 193, 194, 195, 196, 197, 198, 199, 200, 201, 202, 203, 204, 205, 206] (by decide +kernel) (by decide +kernel)) (goodIn_sub (fun _ h => List.mem_cons_of_mem _ (List.mem_append_left _ (List.mem_append_right _ h))) (by decide +kernel))) (goodIn_sub (fun _ h => List.mem_cons_of_mem _ (List.mem_append_left _ (List.mem_append_left _ (List.mem_append_right _ h)))) (by decide +kernel))
set_option maxRecDepth 20000 in
theorem gL_asks_L_shows : GoodIn wsL_asks (va_wsS RL 131 yL_shows wsL_shows) := goodIn_app (goodIn_of _ (by decide +kernel)) ggL_asks_L_shows
set_option maxRecDepth 20000 in
theorem ggL_asks_L_chains : GoodIn wsL_asks wsL_chains := goodIn_ca (goodIn_ca (goodIn_r _ [150, 11, 13, 151, 152, 153, 17, 154, 89, 90, 83, 84, 74, 75, 76, 77, 23, 24, 78, 155, 156, 157, 158, 123, 93, 94, 95, 42, 43, 44, 159, 160, 161, 162, 163, 164, 165, 166, 167, 168, 169, 170, 171, 172, 173, 174, 175, 176, 62, 177, 64, 65, 66, 116, 117, 118, 60, 61, 63, 79, 80, 81, 82, 53, 54, 55, 56, 57, 58, 59, 34, 35, 36, 37, 38, 39, 40, 41, 45, 46, 47, 48, 67, 68, 69, 178, 179, 180, 181, 192, 193, 194, 195, 196, 197, 198, 199, 200, 201, 202, 203, 204, 205, 206] (by decide +kernel) (by decide +kernel)) (goodIn_sub (fun _ h => List.mem_cons_of_mem _ (List.mem_append_right _ h)) (by decide +kernel))) (goodIn_sub (fun _ h => List.mem_cons_of_mem _ (List.mem_append_left _ (List.mem_append_left _ (List.mem_append_right _ h)))) (by decide +kernel))
set_option maxRecDepth 20000 in
theorem gL_asks_L_chains : GoodIn wsL_asks (va_wsS RL 112 yL_chains wsL_chains) := goodIn_app (goodIn_of _ (by decide +kernel)) ggL_asks_L_chains
set_option maxRecDepth 20000 in
theorem ggL_asks_L_gap : GoodIn wsL_asks wsL_gap := goodIn_r _ [184, 185, 99, 100, 3, 101, 105, 106, 107, 102, 103, 104, 96, 97, 98, 186, 187, 188] (by decide +kernel) (by decide +kernel)
set_option maxRecDepth 20000 in
theorem gL_asks_L_gap : GoodIn wsL_asks (va_wsS RL 116 yL_gap wsL_gap) := goodIn_app (goodIn_of _ (by decide +kernel)) ggL_asks_L_gap
set_option maxRecDepth 20000 in
theorem ggL_asks_L_greys : GoodIn wsL_asks wsL_greys := goodIn_r _ [191, 105, 106, 3, 107, 102, 103, 104, 96, 97, 98, 99, 100, 101] (by decide +kernel) (by decide +kernel)
set_option maxRecDepth 20000 in
theorem gL_asks_L_greys : GoodIn wsL_asks (va_wsS RL 134 yL_greys wsL_greys) := goodIn_app (goodIn_of _ (by decide +kernel)) ggL_asks_L_greys
theorem dL_asks_0 : decode cL_asks 0 = .ok (.iload_n 1, 1) := by decide +kernel
theorem dL_asks_1 : decode cL_asks 1 = .ok (.bipush 6, 2) := by decide +kernel
theorem dL_asks_3 : decode cL_asks 3 = .ok (.ishr, 1) := by decide +kernel
theorem dL_asks_4 : decode cL_asks 4 = .ok (.invokestatic 98, 3) := by decide +kernel
theorem dL_asks_7 : decode cL_asks 7 = .ok (.istore 9, 2) := by decide +kernel
theorem dL_asks_9 : decode cL_asks 9 = .ok (.iload 9, 2) := by decide +kernel
theorem dL_asks_11 : decode cL_asks 11 = .ok (.ifCond .lt 15, 3) := by decide +kernel
theorem dL_asks_14 : decode cL_asks 14 = .ok (.iload 9, 2) := by decide +kernel
theorem dL_asks_16 : decode cL_asks 16 = .ok (.sipush 256, 3) := by decide +kernel
theorem dL_asks_19 : decode cL_asks 19 = .ok (.if_icmp .ge 7, 3) := by decide +kernel
theorem dL_asks_22 : decode cL_asks 22 = .ok (.iconst 1, 1) := by decide +kernel
theorem dL_asks_23 : decode cL_asks 23 = .ok (.goto 4, 3) := by decide +kernel
theorem dL_asks_26 : decode cL_asks 26 = .ok (.iconst 0, 1) := by decide +kernel
theorem dL_asks_27 : decode cL_asks 27 = .ok (.istore 10, 2) := by decide +kernel
theorem dL_asks_29 : decode cL_asks 29 = .ok (.iconst 0, 1) := by decide +kernel
theorem dL_asks_30 : decode cL_asks 30 = .ok (.istore 11, 2) := by decide +kernel
theorem dL_asks_32 : decode cL_asks 32 = .ok (.iload 11, 2) := by decide +kernel
theorem dL_asks_34 : decode cL_asks 34 = .ok (.iconst 4, 1) := by decide +kernel
theorem dL_asks_35 : decode cL_asks 35 = .ok (.if_icmp .ge 303, 3) := by decide +kernel
theorem dL_asks_38 : decode cL_asks 38 = .ok (.iconst 0, 1) := by decide +kernel
theorem dL_asks_39 : decode cL_asks 39 = .ok (.istore 12, 2) := by decide +kernel
theorem dL_asks_41 : decode cL_asks 41 = .ok (.iload 12, 2) := by decide +kernel
theorem dL_asks_43 : decode cL_asks 43 = .ok (.aload_n 3, 1) := by decide +kernel
theorem dL_asks_44 : decode cL_asks 44 = .ok (.iconst 0, 1) := by decide +kernel
theorem dL_asks_45 : decode cL_asks 45 = .ok (.iaload, 1) := by decide +kernel
theorem dL_asks_46 : decode cL_asks 46 = .ok (.if_icmp .gt 131, 3) := by decide +kernel
theorem dL_asks_49 : decode cL_asks 49 = .ok (.iload 12, 2) := by decide +kernel
theorem dL_asks_51 : decode cL_asks 51 = .ok (.aload_n 3, 1) := by decide +kernel
theorem dL_asks_52 : decode cL_asks 52 = .ok (.iconst 0, 1) := by decide +kernel
theorem dL_asks_53 : decode cL_asks 53 = .ok (.iaload, 1) := by decide +kernel
theorem dL_asks_54 : decode cL_asks 54 = .ok (.if_icmp .ge 13, 3) := by decide +kernel
theorem dL_asks_57 : decode cL_asks 57 = .ok (.iload 11, 2) := by decide +kernel
theorem dL_asks_59 : decode cL_asks 59 = .ok (.iconst 3, 1) := by decide +kernel
theorem dL_asks_60 : decode cL_asks 60 = .ok (.if_icmp .ge 7, 3) := by decide +kernel
theorem dL_asks_63 : decode cL_asks 63 = .ok (.iconst 1, 1) := by decide +kernel
theorem dL_asks_64 : decode cL_asks 64 = .ok (.goto 4, 3) := by decide +kernel
theorem dL_asks_67 : decode cL_asks 67 = .ok (.iconst 0, 1) := by decide +kernel
theorem dL_asks_68 : decode cL_asks 68 = .ok (.istore 13, 2) := by decide +kernel
theorem dL_asks_70 : decode cL_asks 70 = .ok (.aload_n 0, 1) := by decide +kernel
theorem dL_asks_71 : decode cL_asks 71 = .ok (.iconst 0, 1) := by decide +kernel
theorem dL_asks_72 : decode cL_asks 72 = .ok (.iload 12, 2) := by decide +kernel
theorem dL_asks_74 : decode cL_asks 74 = .ok (.iload 11, 2) := by decide +kernel
theorem dL_asks_76 : decode cL_asks 76 = .ok (.iload 9, 2) := by decide +kernel
theorem dL_asks_78 : decode cL_asks 78 = .ok (.invokestatic 122, 3) := by decide +kernel
theorem dL_asks_81 : decode cL_asks 81 = .ok (.iload 13, 2) := by decide +kernel
theorem dL_asks_83 : decode cL_asks 83 = .ok (.ifCond .ne 8, 3) := by decide +kernel
theorem dL_asks_86 : decode cL_asks 86 = .ok (.bipush (-101), 2) := by decide +kernel
theorem dL_asks_88 : decode cL_asks 88 = .ok (.goto 30, 3) := by decide +kernel
theorem dL_asks_91 : decode cL_asks 91 = .ok (.iload 10, 2) := by decide +kernel
theorem dL_asks_93 : decode cL_asks 93 = .ok (.ifCond .ne 8, 3) := by decide +kernel
theorem dL_asks_96 : decode cL_asks 96 = .ok (.bipush (-102), 2) := by decide +kernel
theorem dL_asks_98 : decode cL_asks 98 = .ok (.goto 20, 3) := by decide +kernel
theorem dL_asks_101 : decode cL_asks 101 = .ok (.aload 4, 2) := by decide +kernel
theorem dL_asks_103 : decode cL_asks 103 = .ok (.bipush 15, 2) := by decide +kernel
theorem dL_asks_105 : decode cL_asks 105 = .ok (.iload 12, 2) := by decide +kernel
theorem dL_asks_107 : decode cL_asks 107 = .ok (.imul, 1) := by decide +kernel
theorem dL_asks_108 : decode cL_asks 108 = .ok (.iconst 5, 1) := by decide +kernel
theorem dL_asks_109 : decode cL_asks 109 = .ok (.iload 11, 2) := by decide +kernel
theorem dL_asks_111 : decode cL_asks 111 = .ok (.imul, 1) := by decide +kernel
theorem dL_asks_112 : decode cL_asks 112 = .ok (.iadd, 1) := by decide +kernel
theorem dL_asks_113 : decode cL_asks 113 = .ok (.iload 9, 2) := by decide +kernel
theorem dL_asks_115 : decode cL_asks 115 = .ok (.invokestatic 15, 3) := by decide +kernel
theorem dL_asks_118 : decode cL_asks 118 = .ok (.if_icmp .ne 51, 3) := by decide +kernel
theorem dL_asks_121 : decode cL_asks 121 = .ok (.aload_n 0, 1) := by decide +kernel
theorem dL_asks_122 : decode cL_asks 122 = .ok (.iconst 1, 1) := by decide +kernel
theorem dL_asks_123 : decode cL_asks 123 = .ok (.iload 12, 2) := by decide +kernel
theorem dL_asks_125 : decode cL_asks 125 = .ok (.iload 11, 2) := by decide +kernel
theorem dL_asks_127 : decode cL_asks 127 = .ok (.iload 9, 2) := by decide +kernel
theorem dL_asks_129 : decode cL_asks 129 = .ok (.invokestatic 122, 3) := by decide +kernel
theorem dL_asks_132 : decode cL_asks 132 = .ok (.iload 13, 2) := by decide +kernel
theorem dL_asks_134 : decode cL_asks 134 = .ok (.ifCond .ne 8, 3) := by decide +kernel
theorem dL_asks_137 : decode cL_asks 137 = .ok (.bipush (-101), 2) := by decide +kernel
theorem dL_asks_139 : decode cL_asks 139 = .ok (.goto 27, 3) := by decide +kernel
theorem dL_asks_142 : decode cL_asks 142 = .ok (.iload 10, 2) := by decide +kernel
theorem dL_asks_144 : decode cL_asks 144 = .ok (.ifCond .ne 8, 3) := by decide +kernel
theorem dL_asks_147 : decode cL_asks 147 = .ok (.bipush (-102), 2) := by decide +kernel
theorem dL_asks_149 : decode cL_asks 149 = .ok (.goto 17, 3) := by decide +kernel
theorem dL_asks_152 : decode cL_asks 152 = .ok (.aload_n 3, 1) := by decide +kernel
theorem dL_asks_153 : decode cL_asks 153 = .ok (.aload 4, 2) := by decide +kernel
theorem dL_asks_155 : decode cL_asks 155 = .ok (.aload 5, 2) := by decide +kernel
theorem dL_asks_157 : decode cL_asks 157 = .ok (.iload 12, 2) := by decide +kernel
theorem dL_asks_159 : decode cL_asks 159 = .ok (.iload 11, 2) := by decide +kernel
theorem dL_asks_161 : decode cL_asks 161 = .ok (.iload 9, 2) := by decide +kernel
theorem dL_asks_163 : decode cL_asks 163 = .ok (.invokestatic 19, 3) := by decide +kernel
theorem dL_asks_166 : decode cL_asks 166 = .ok (.if_icmp .eq 5, 3) := by decide +kernel
theorem dL_asks_169 : decode cL_asks 169 = .ok (.iconst 0, 1) := by decide +kernel
theorem dL_asks_170 : decode cL_asks 170 = .ok (.ireturn, 1) := by decide +kernel
theorem dL_asks_171 : decode cL_asks 171 = .ok (.iinc 12 1, 3) := by decide +kernel
theorem dL_asks_174 : decode cL_asks 174 = .ok (.goto (-133), 3) := by decide +kernel
theorem dL_asks_177 : decode cL_asks 177 = .ok (.iconst 0, 1) := by decide +kernel
theorem dL_asks_178 : decode cL_asks 178 = .ok (.istore 12, 2) := by decide +kernel
theorem dL_asks_180 : decode cL_asks 180 = .ok (.iload 12, 2) := by decide +kernel
theorem dL_asks_182 : decode cL_asks 182 = .ok (.aload_n 3, 1) := by decide +kernel
theorem dL_asks_183 : decode cL_asks 183 = .ok (.iconst 1, 1) := by decide +kernel
theorem dL_asks_184 : decode cL_asks 184 = .ok (.iaload, 1) := by decide +kernel
theorem dL_asks_185 : decode cL_asks 185 = .ok (.if_icmp .gt 147, 3) := by decide +kernel
theorem dL_asks_188 : decode cL_asks 188 = .ok (.iload 12, 2) := by decide +kernel
theorem dL_asks_190 : decode cL_asks 190 = .ok (.aload_n 3, 1) := by decide +kernel
theorem dL_asks_191 : decode cL_asks 191 = .ok (.iconst 1, 1) := by decide +kernel
theorem dL_asks_192 : decode cL_asks 192 = .ok (.iaload, 1) := by decide +kernel
theorem dL_asks_193 : decode cL_asks 193 = .ok (.if_icmp .ge 13, 3) := by decide +kernel
theorem dL_asks_196 : decode cL_asks 196 = .ok (.iload 11, 2) := by decide +kernel
theorem dL_asks_198 : decode cL_asks 198 = .ok (.iconst 3, 1) := by decide +kernel
theorem dL_asks_199 : decode cL_asks 199 = .ok (.if_icmp .ge 7, 3) := by decide +kernel
theorem dL_asks_202 : decode cL_asks 202 = .ok (.iconst 1, 1) := by decide +kernel
theorem dL_asks_203 : decode cL_asks 203 = .ok (.goto 4, 3) := by decide +kernel
theorem dL_asks_206 : decode cL_asks 206 = .ok (.iconst 0, 1) := by decide +kernel
theorem dL_asks_207 : decode cL_asks 207 = .ok (.istore 13, 2) := by decide +kernel
theorem dL_asks_209 : decode cL_asks 209 = .ok (.aload_n 0, 1) := by decide +kernel
theorem dL_asks_210 : decode cL_asks 210 = .ok (.iconst 2, 1) := by decide +kernel
theorem dL_asks_211 : decode cL_asks 211 = .ok (.iload 12, 2) := by decide +kernel
theorem dL_asks_213 : decode cL_asks 213 = .ok (.iload 11, 2) := by decide +kernel
theorem dL_asks_215 : decode cL_asks 215 = .ok (.iload 9, 2) := by decide +kernel
theorem dL_asks_217 : decode cL_asks 217 = .ok (.invokestatic 122, 3) := by decide +kernel
theorem dL_asks_220 : decode cL_asks 220 = .ok (.iload 13, 2) := by decide +kernel
theorem dL_asks_222 : decode cL_asks 222 = .ok (.ifCond .ne 8, 3) := by decide +kernel
theorem dL_asks_225 : decode cL_asks 225 = .ok (.bipush (-101), 2) := by decide +kernel
theorem dL_asks_227 : decode cL_asks 227 = .ok (.goto 29, 3) := by decide +kernel
theorem dL_asks_230 : decode cL_asks 230 = .ok (.iload 10, 2) := by decide +kernel
theorem dL_asks_232 : decode cL_asks 232 = .ok (.ifCond .ne 8, 3) := by decide +kernel
theorem dL_asks_235 : decode cL_asks 235 = .ok (.bipush (-102), 2) := by decide +kernel
theorem dL_asks_237 : decode cL_asks 237 = .ok (.goto 19, 3) := by decide +kernel
theorem dL_asks_240 : decode cL_asks 240 = .ok (.aload_n 3, 1) := by decide +kernel
theorem dL_asks_241 : decode cL_asks 241 = .ok (.aload 4, 2) := by decide +kernel
theorem dL_asks_243 : decode cL_asks 243 = .ok (.aload 5, 2) := by decide +kernel
theorem dL_asks_245 : decode cL_asks 245 = .ok (.aload 6, 2) := by decide +kernel
theorem dL_asks_247 : decode cL_asks 247 = .ok (.iload 12, 2) := by decide +kernel
theorem dL_asks_249 : decode cL_asks 249 = .ok (.iload 11, 2) := by decide +kernel
theorem dL_asks_251 : decode cL_asks 251 = .ok (.iload 9, 2) := by decide +kernel
theorem dL_asks_253 : decode cL_asks 253 = .ok (.invokestatic 23, 3) := by decide +kernel
theorem dL_asks_256 : decode cL_asks 256 = .ok (.if_icmp .ne 68, 3) := by decide +kernel
theorem dL_asks_259 : decode cL_asks 259 = .ok (.aload_n 0, 1) := by decide +kernel
theorem dL_asks_260 : decode cL_asks 260 = .ok (.iconst 3, 1) := by decide +kernel
theorem dL_asks_261 : decode cL_asks 261 = .ok (.iload 12, 2) := by decide +kernel
theorem dL_asks_263 : decode cL_asks 263 = .ok (.iload 11, 2) := by decide +kernel
theorem dL_asks_265 : decode cL_asks 265 = .ok (.iload 9, 2) := by decide +kernel
theorem dL_asks_267 : decode cL_asks 267 = .ok (.invokestatic 122, 3) := by decide +kernel
theorem dL_asks_270 : decode cL_asks 270 = .ok (.iload 13, 2) := by decide +kernel
theorem dL_asks_272 : decode cL_asks 272 = .ok (.ifCond .ne 8, 3) := by decide +kernel
theorem dL_asks_275 : decode cL_asks 275 = .ok (.bipush (-101), 2) := by decide +kernel
theorem dL_asks_277 : decode cL_asks 277 = .ok (.goto 44, 3) := by decide +kernel
theorem dL_asks_280 : decode cL_asks 280 = .ok (.iload 10, 2) := by decide +kernel
theorem dL_asks_282 : decode cL_asks 282 = .ok (.ifCond .ne 8, 3) := by decide +kernel
theorem dL_asks_285 : decode cL_asks 285 = .ok (.bipush (-102), 2) := by decide +kernel
theorem dL_asks_287 : decode cL_asks 287 = .ok (.goto 34, 3) := by decide +kernel
theorem dL_asks_290 : decode cL_asks 290 = .ok (.aload_n 3, 1) := by decide +kernel
theorem dL_asks_291 : decode cL_asks 291 = .ok (.iconst 4, 1) := by decide +kernel
theorem dL_asks_292 : decode cL_asks 292 = .ok (.iload 12, 2) := by decide +kernel
theorem dL_asks_294 : decode cL_asks 294 = .ok (.iadd, 1) := by decide +kernel
theorem dL_asks_295 : decode cL_asks 295 = .ok (.iaload, 1) := by decide +kernel
theorem dL_asks_296 : decode cL_asks 296 = .ok (.ifCond .ne 8, 3) := by decide +kernel
theorem dL_asks_299 : decode cL_asks 299 = .ok (.bipush (-103), 2) := by decide +kernel
theorem dL_asks_301 : decode cL_asks 301 = .ok (.goto 20, 3) := by decide +kernel
theorem dL_asks_304 : decode cL_asks 304 = .ok (.aload 7, 2) := by decide +kernel
theorem dL_asks_306 : decode cL_asks 306 = .ok (.bipush 15, 2) := by decide +kernel
theorem dL_asks_308 : decode cL_asks 308 = .ok (.iload 12, 2) := by decide +kernel
theorem dL_asks_310 : decode cL_asks 310 = .ok (.imul, 1) := by decide +kernel
theorem dL_asks_311 : decode cL_asks 311 = .ok (.iconst 5, 1) := by decide +kernel
theorem dL_asks_312 : decode cL_asks 312 = .ok (.iload 11, 2) := by decide +kernel
theorem dL_asks_314 : decode cL_asks 314 = .ok (.imul, 1) := by decide +kernel
theorem dL_asks_315 : decode cL_asks 315 = .ok (.iadd, 1) := by decide +kernel
theorem dL_asks_316 : decode cL_asks 316 = .ok (.iload 9, 2) := by decide +kernel
theorem dL_asks_318 : decode cL_asks 318 = .ok (.invokestatic 15, 3) := by decide +kernel
theorem dL_asks_321 : decode cL_asks 321 = .ok (.if_icmp .eq 5, 3) := by decide +kernel
theorem dL_asks_324 : decode cL_asks 324 = .ok (.iconst 0, 1) := by decide +kernel
theorem dL_asks_325 : decode cL_asks 325 = .ok (.ireturn, 1) := by decide +kernel
theorem dL_asks_326 : decode cL_asks 326 = .ok (.iinc 12 1, 3) := by decide +kernel
theorem dL_asks_329 : decode cL_asks 329 = .ok (.goto (-149), 3) := by decide +kernel
theorem dL_asks_332 : decode cL_asks 332 = .ok (.iinc 11 1, 3) := by decide +kernel
theorem dL_asks_335 : decode cL_asks 335 = .ok (.goto (-303), 3) := by decide +kernel
theorem dL_asks_338 : decode cL_asks 338 = .ok (.iconst 0, 1) := by decide +kernel
theorem dL_asks_339 : decode cL_asks 339 = .ok (.istore 11, 2) := by decide +kernel
theorem dL_asks_341 : decode cL_asks 341 = .ok (.iconst 0, 1) := by decide +kernel
theorem dL_asks_342 : decode cL_asks 342 = .ok (.istore 12, 2) := by decide +kernel
theorem dL_asks_344 : decode cL_asks 344 = .ok (.iload 12, 2) := by decide +kernel
theorem dL_asks_346 : decode cL_asks 346 = .ok (.bipush 15, 2) := by decide +kernel
theorem dL_asks_348 : decode cL_asks 348 = .ok (.aload_n 3, 1) := by decide +kernel
theorem dL_asks_349 : decode cL_asks 349 = .ok (.iconst 1, 1) := by decide +kernel
theorem dL_asks_350 : decode cL_asks 350 = .ok (.iaload, 1) := by decide +kernel
theorem dL_asks_351 : decode cL_asks 351 = .ok (.imul, 1) := by decide +kernel
theorem dL_asks_352 : decode cL_asks 352 = .ok (.if_icmp .ge 73, 3) := by decide +kernel
theorem dL_asks_355 : decode cL_asks 355 = .ok (.iload 12, 2) := by decide +kernel
theorem dL_asks_357 : decode cL_asks 357 = .ok (.bipush 15, 2) := by decide +kernel
theorem dL_asks_359 : decode cL_asks 359 = .ok (.idiv, 1) := by decide +kernel
theorem dL_asks_360 : decode cL_asks 360 = .ok (.istore 13, 2) := by decide +kernel
theorem dL_asks_362 : decode cL_asks 362 = .ok (.iload 11, 2) := by decide +kernel
theorem dL_asks_364 : decode cL_asks 364 = .ok (.aload_n 3, 1) := by decide +kernel
theorem dL_asks_365 : decode cL_asks 365 = .ok (.iconst 4, 1) := by decide +kernel
theorem dL_asks_366 : decode cL_asks 366 = .ok (.iload 13, 2) := by decide +kernel
theorem dL_asks_368 : decode cL_asks 368 = .ok (.iadd, 1) := by decide +kernel
theorem dL_asks_369 : decode cL_asks 369 = .ok (.iaload, 1) := by decide +kernel
theorem dL_asks_370 : decode cL_asks 370 = .ok (.iconst 1, 1) := by decide +kernel
theorem dL_asks_371 : decode cL_asks 371 = .ok (.if_icmp .ne 44, 3) := by decide +kernel
theorem dL_asks_374 : decode cL_asks 374 = .ok (.aload 7, 2) := by decide +kernel
theorem dL_asks_376 : decode cL_asks 376 = .ok (.iload 12, 2) := by decide +kernel
theorem dL_asks_378 : decode cL_asks 378 = .ok (.iaload, 1) := by decide +kernel
theorem dL_asks_379 : decode cL_asks 379 = .ok (.aload_n 3, 1) := by decide +kernel
theorem dL_asks_380 : decode cL_asks 380 = .ok (.aload 4, 2) := by decide +kernel
theorem dL_asks_382 : decode cL_asks 382 = .ok (.aload 5, 2) := by decide +kernel
theorem dL_asks_384 : decode cL_asks 384 = .ok (.aload 6, 2) := by decide +kernel
theorem dL_asks_386 : decode cL_asks 386 = .ok (.iload 13, 2) := by decide +kernel
theorem dL_asks_388 : decode cL_asks 388 = .ok (.iload 12, 2) := by decide +kernel
theorem dL_asks_390 : decode cL_asks 390 = .ok (.bipush 15, 2) := by decide +kernel
theorem dL_asks_392 : decode cL_asks 392 = .ok (.irem, 1) := by decide +kernel
theorem dL_asks_393 : decode cL_asks 393 = .ok (.iconst 5, 1) := by decide +kernel
theorem dL_asks_394 : decode cL_asks 394 = .ok (.idiv, 1) := by decide +kernel
theorem dL_asks_395 : decode cL_asks 395 = .ok (.iload 12, 2) := by decide +kernel
theorem dL_asks_397 : decode cL_asks 397 = .ok (.iconst 5, 1) := by decide +kernel
theorem dL_asks_398 : decode cL_asks 398 = .ok (.irem, 1) := by decide +kernel
theorem dL_asks_399 : decode cL_asks 399 = .ok (.invokestatic 9, 3) := by decide +kernel
theorem dL_asks_402 : decode cL_asks 402 = .ok (.invokestatic 23, 3) := by decide +kernel
theorem dL_asks_405 : decode cL_asks 405 = .ok (.if_icmp .eq 10, 3) := by decide +kernel
theorem dL_asks_408 : decode cL_asks 408 = .ok (.iconst 1, 1) := by decide +kernel
theorem dL_asks_409 : decode cL_asks 409 = .ok (.iload 13, 2) := by decide +kernel
theorem dL_asks_411 : decode cL_asks 411 = .ok (.ishl, 1) := by decide +kernel
theorem dL_asks_412 : decode cL_asks 412 = .ok (.goto 4, 3) := by decide +kernel
theorem dL_asks_415 : decode cL_asks 415 = .ok (.iconst 0, 1) := by decide +kernel
theorem dL_asks_416 : decode cL_asks 416 = .ok (.ior, 1) := by decide +kernel
theorem dL_asks_417 : decode cL_asks 417 = .ok (.istore 11, 2) := by decide +kernel
theorem dL_asks_419 : decode cL_asks 419 = .ok (.iinc 12 1, 3) := by decide +kernel
theorem dL_asks_422 : decode cL_asks 422 = .ok (.goto (-78), 3) := by decide +kernel
theorem dL_asks_425 : decode cL_asks 425 = .ok (.iload_n 1, 1) := by decide +kernel
theorem dL_asks_426 : decode cL_asks 426 = .ok (.iconst 3, 1) := by decide +kernel
theorem dL_asks_427 : decode cL_asks 427 = .ok (.ishr, 1) := by decide +kernel
theorem dL_asks_428 : decode cL_asks 428 = .ok (.aload_n 3, 1) := by decide +kernel
theorem dL_asks_429 : decode cL_asks 429 = .ok (.iconst 1, 1) := by decide +kernel
theorem dL_asks_430 : decode cL_asks 430 = .ok (.iaload, 1) := by decide +kernel
theorem dL_asks_431 : decode cL_asks 431 = .ok (.iconst 1, 1) := by decide +kernel
theorem dL_asks_432 : decode cL_asks 432 = .ok (.iadd, 1) := by decide +kernel
theorem dL_asks_433 : decode cL_asks 433 = .ok (.invokestatic 91, 3) := by decide +kernel
theorem dL_asks_436 : decode cL_asks 436 = .ok (.istore 12, 2) := by decide +kernel
theorem dL_asks_438 : decode cL_asks 438 = .ok (.iload_n 1, 1) := by decide +kernel
theorem dL_asks_439 : decode cL_asks 439 = .ok (.iconst 5, 1) := by decide +kernel
theorem dL_asks_440 : decode cL_asks 440 = .ok (.ishr, 1) := by decide +kernel
theorem dL_asks_441 : decode cL_asks 441 = .ok (.iconst 2, 1) := by decide +kernel
theorem dL_asks_442 : decode cL_asks 442 = .ok (.invokestatic 91, 3) := by decide +kernel
theorem dL_asks_445 : decode cL_asks 445 = .ok (.istore 13, 2) := by decide +kernel
theorem dL_asks_447 : decode cL_asks 447 = .ok (.iload_n 1, 1) := by decide +kernel
theorem dL_asks_448 : decode cL_asks 448 = .ok (.iconst 4, 1) := by decide +kernel
theorem dL_asks_449 : decode cL_asks 449 = .ok (.ishr, 1) := by decide +kernel
theorem dL_asks_450 : decode cL_asks 450 = .ok (.iconst 4, 1) := by decide +kernel
theorem dL_asks_451 : decode cL_asks 451 = .ok (.invokestatic 91, 3) := by decide +kernel
theorem dL_asks_454 : decode cL_asks 454 = .ok (.istore 14, 2) := by decide +kernel
theorem dL_asks_456 : decode cL_asks 456 = .ok (.iload_n 1, 1) := by decide +kernel
theorem dL_asks_457 : decode cL_asks 457 = .ok (.bipush 7, 2) := by decide +kernel
theorem dL_asks_459 : decode cL_asks 459 = .ok (.ishr, 1) := by decide +kernel
theorem dL_asks_460 : decode cL_asks 460 = .ok (.bipush 9, 2) := by decide +kernel
theorem dL_asks_462 : decode cL_asks 462 = .ok (.invokestatic 91, 3) := by decide +kernel
theorem dL_asks_465 : decode cL_asks 465 = .ok (.istore 15, 2) := by decide +kernel
theorem dL_asks_467 : decode cL_asks 467 = .ok (.iload 12, 2) := by decide +kernel
theorem dL_asks_469 : decode cL_asks 469 = .ok (.aload_n 3, 1) := by decide +kernel
theorem dL_asks_470 : decode cL_asks 470 = .ok (.iconst 1, 1) := by decide +kernel
theorem dL_asks_471 : decode cL_asks 471 = .ok (.iaload, 1) := by decide +kernel
theorem dL_asks_472 : decode cL_asks 472 = .ok (.if_icmp .ge 13, 3) := by decide +kernel
theorem dL_asks_475 : decode cL_asks 475 = .ok (.iload 14, 2) := by decide +kernel
theorem dL_asks_477 : decode cL_asks 477 = .ok (.iconst 3, 1) := by decide +kernel
theorem dL_asks_478 : decode cL_asks 478 = .ok (.if_icmp .ge 7, 3) := by decide +kernel
theorem dL_asks_481 : decode cL_asks 481 = .ok (.iconst 1, 1) := by decide +kernel
theorem dL_asks_482 : decode cL_asks 482 = .ok (.goto 4, 3) := by decide +kernel
theorem dL_asks_485 : decode cL_asks 485 = .ok (.iconst 0, 1) := by decide +kernel
theorem dL_asks_486 : decode cL_asks 486 = .ok (.istore 16, 2) := by decide +kernel
theorem dL_asks_488 : decode cL_asks 488 = .ok (.iload 16, 2) := by decide +kernel
theorem dL_asks_490 : decode cL_asks 490 = .ok (.ifCond .eq 16, 3) := by decide +kernel
theorem dL_asks_493 : decode cL_asks 493 = .ok (.aload 8, 2) := by decide +kernel
