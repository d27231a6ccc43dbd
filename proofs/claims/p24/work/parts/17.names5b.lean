theorem dL_bends_20 : decode cL_bends 20 = .ok (.astore 5, 2) := by decide +kernel
theorem dL_bends_22 : decode cL_bends 22 = .ok (.bipush (-103), 2) := by decide +kernel
theorem dL_bends_24 : decode cL_bends 24 = .ok (.ireturn, 1) := by decide +kernel
set_option maxRecDepth 20000 in
theorem ggL_reaches_X0_reach : GoodIn wsL_reaches wsX0_reach := goodIn_ca (goodIn_ca (goodIn_ca (goodIn_r _ [8, 9, 10, 11, 12, 13, 14, 15, 7, 16, 17, 18, 19, 20, 21, 22, 23, 24, 25, 26, 27, 28, 29, 30, 31, 32, 33, 34, 35, 36, 37, 38, 39, 40, 41, 42, 43, 44, 45, 46, 47, 48, 49, 50, 51, 52, 53, 54, 55, 56, 57, 58, 59, 60, 61, 62, 63, 64, 65, 66] (by decide +kernel) (by decide +kernel)) (goodIn_sub (fun _ h => List.mem_cons_of_mem _ (List.mem_append_left _ (List.mem_append_left _ (List.mem_append_right _ h)))) (by decide +kernel))) (goodIn_sub (fun _ h => List.mem_cons_of_mem _ (List.mem_append_left _ (List.mem_append_right _ h))) (by decide +kernel))) (goodIn_sub (fun _ h => List.mem_cons_of_mem _ (List.mem_append_right _ h)) (by decide +kernel))
set_option maxRecDepth 20000 in
theorem gL_reaches_X0_reach : GoodIn wsL_reaches (wsV RL 43 RX0 yX0_reach wsX0_reach) := goodIn_app (goodIn_of _ (by decide +kernel)) ggL_reaches_X0_reach
theorem dL_reaches_0 : decode cL_reaches 0 = .ok (.aload_n 0, 1) := by decide +kernel
theorem dL_reaches_1 : decode cL_reaches 1 = .ok (.iload_n 1, 1) := by decide +kernel
theorem dL_reaches_2 : decode cL_reaches 2 = .ok (.iload_n 2, 1) := by decide +kernel
theorem dL_reaches_3 : decode cL_reaches 3 = .ok (.iload_n 3, 1) := by decide +kernel
theorem dL_reaches_4 : decode cL_reaches 4 = .ok (.iload 4, 2) := by decide +kernel
theorem dL_reaches_6 : decode cL_reaches 6 = .ok (.invokevirtual 43, 3) := by decide +kernel
theorem dL_reaches_9 : decode cL_reaches 9 = .ok (.ireturn, 1) := by decide +kernel
theorem dL_reaches_10 : decode cL_reaches 10 = .ok (.astore 5, 2) := by decide +kernel
theorem dL_reaches_12 : decode cL_reaches 12 = .ok (.bipush (-101), 2) := by decide +kernel
theorem dL_reaches_14 : decode cL_reaches 14 = .ok (.ireturn, 1) := by decide +kernel
theorem dL_reaches_15 : decode cL_reaches 15 = .ok (.astore 5, 2) := by decide +kernel
theorem dL_reaches_17 : decode cL_reaches 17 = .ok (.bipush (-102), 2) := by decide +kernel
theorem dL_reaches_19 : decode cL_reaches 19 = .ok (.ireturn, 1) := by decide +kernel
theorem dL_reaches_20 : decode cL_reaches 20 = .ok (.astore 5, 2) := by decide +kernel
theorem dL_reaches_22 : decode cL_reaches 22 = .ok (.bipush (-103), 2) := by decide +kernel
theorem dL_reaches_24 : decode cL_reaches 24 = .ok (.ireturn, 1) := by decide +kernel
set_option maxRecDepth 20000 in
theorem ggL_sets_X0_way : GoodIn wsL_sets wsX0_way := goodIn_ca (goodIn_ca (goodIn_ca (goodIn_r _ [8, 9, 10, 11, 12, 13, 14, 7, 15, 16, 17, 18, 19, 20, 21, 22, 23, 24, 25, 26, 27, 28, 29, 30, 31, 32, 33, 34, 35, 36, 37, 38, 39, 40, 41, 42, 43, 44, 110, 111, 112, 113, 114, 115, 116, 117, 118, 119, 120, 121, 122, 123, 124] (by decide +kernel) (by decide +kernel)) (goodIn_sub (fun _ h => List.mem_cons_of_mem _ (List.mem_append_left _ (List.mem_append_left _ (List.mem_append_right _ h)))) (by decide +kernel))) (goodIn_sub (fun _ h => List.mem_cons_of_mem _ (List.mem_append_left _ (List.mem_append_right _ h))) (by decide +kernel))) (goodIn_sub (fun _ h => List.mem_cons_of_mem _ (List.mem_append_right _ h)) (by decide +kernel))
set_option maxRecDepth 20000 in
theorem gL_sets_X0_way : GoodIn wsL_sets (wsV RL 46 RX0 yX0_way wsX0_way) := goodIn_app (goodIn_of _ (by decide +kernel)) ggL_sets_X0_way
set_option maxRecDepth 20000 in
theorem ggL_sets_X0_add : GoodIn wsL_sets wsX0_add := goodIn_ca (goodIn_ca (goodIn_r _ [48, 23, 24, 37, 38, 49, 50, 51, 7, 52, 16, 17, 53, 12, 13, 14, 15, 18, 54, 55, 56, 57, 29, 30, 31, 32, 39, 40, 41, 42, 43, 44, 110, 111, 112, 113, 114, 115, 116, 117, 118, 119, 120, 121, 122, 123, 124] (by decide +kernel) (by decide +kernel)) (goodIn_sub (fun _ h => List.mem_cons_of_mem _ (List.mem_append_right _ h)) (by decide +kernel))) (goodIn_sub (fun _ h => List.mem_cons_of_mem _ (List.mem_append_left _ (List.mem_append_right _ h))) (by decide +kernel))
set_option maxRecDepth 20000 in
theorem gL_sets_X0_add : GoodIn wsL_sets (wsV RL 49 RX0 yX0_add wsX0_add) := goodIn_app (goodIn_of _ (by decide +kernel)) ggL_sets_X0_add
set_option maxRecDepth 20000 in
theorem ggL_sets_X0_join : GoodIn wsL_sets wsX0_join := goodIn_ca (goodIn_ca (goodIn_ca (goodIn_r _ [61, 23, 24, 62, 63, 64, 49, 50, 51, 7, 52, 16, 17, 53, 65, 66, 67, 9, 10, 68, 69, 70, 71, 72, 73, 74, 75, 76, 77, 78, 79, 80, 81, 82, 83, 84, 85, 86, 87, 88, 37, 38, 39, 40, 41, 89, 90, 91, 92, 93, 94, 11, 95, 96, 97, 98, 99, 100, 101, 102, 103, 104, 105, 106, 107, 108, 109, 42, 43, 44, 110, 111, 112, 113, 114, 115, 116, 117, 118, 119, 120, 121, 122, 123, 124] (by decide +kernel) (by decide +kernel)) (goodIn_sub (fun _ h => List.mem_cons_of_mem _ (List.mem_append_right _ h)) (by decide +kernel))) (goodIn_sub (fun _ h => List.mem_cons_of_mem _ (List.mem_append_left _ (List.mem_append_right _ h))) (by decide +kernel))) (goodIn_sub (fun _ h => List.mem_cons_of_mem _ (List.mem_append_left _ (List.mem_append_left _ (List.mem_append_right _ h)))) (by decide +kernel))
set_option maxRecDepth 20000 in
theorem gL_sets_X0_join : GoodIn wsL_sets (wsV RL 52 RX0 yX0_join wsX0_join) := goodIn_app (goodIn_of _ (by decide +kernel)) ggL_sets_X0_join
theorem dL_sets_0 : decode cL_sets 0 = .ok (.iload_n 1, 1) := by decide +kernel
theorem dL_sets_1 : decode cL_sets 1 = .ok (.ifCond .ne 12, 3) := by decide +kernel
theorem dL_sets_4 : decode cL_sets 4 = .ok (.aload_n 0, 1) := by decide +kernel
theorem dL_sets_5 : decode cL_sets 5 = .ok (.iload_n 2, 1) := by decide +kernel
theorem dL_sets_6 : decode cL_sets 6 = .ok (.iload_n 3, 1) := by decide +kernel
theorem dL_sets_7 : decode cL_sets 7 = .ok (.invokevirtual 46, 3) := by decide +kernel
theorem dL_sets_10 : decode cL_sets 10 = .ok (.goto 23, 3) := by decide +kernel
theorem dL_sets_13 : decode cL_sets 13 = .ok (.iload_n 1, 1) := by decide +kernel
theorem dL_sets_14 : decode cL_sets 14 = .ok (.iconst 1, 1) := by decide +kernel
theorem dL_sets_15 : decode cL_sets 15 = .ok (.if_icmp .ne 12, 3) := by decide +kernel
theorem dL_sets_18 : decode cL_sets 18 = .ok (.aload_n 0, 1) := by decide +kernel
theorem dL_sets_19 : decode cL_sets 19 = .ok (.iload_n 2, 1) := by decide +kernel
theorem dL_sets_20 : decode cL_sets 20 = .ok (.iload_n 3, 1) := by decide +kernel
theorem dL_sets_21 : decode cL_sets 21 = .ok (.invokevirtual 49, 3) := by decide +kernel
theorem dL_sets_24 : decode cL_sets 24 = .ok (.goto 9, 3) := by decide +kernel
theorem dL_sets_27 : decode cL_sets 27 = .ok (.aload_n 0, 1) := by decide +kernel
theorem dL_sets_28 : decode cL_sets 28 = .ok (.iload_n 2, 1) := by decide +kernel
theorem dL_sets_29 : decode cL_sets 29 = .ok (.iload_n 3, 1) := by decide +kernel
theorem dL_sets_30 : decode cL_sets 30 = .ok (.invokevirtual 52, 3) := by decide +kernel
theorem dL_sets_33 : decode cL_sets 33 = .ok (.ireturn, 1) := by decide +kernel
theorem dL_sets_34 : decode cL_sets 34 = .ok (.astore 4, 2) := by decide +kernel
theorem dL_sets_36 : decode cL_sets 36 = .ok (.bipush (-101), 2) := by decide +kernel
theorem dL_sets_38 : decode cL_sets 38 = .ok (.ireturn, 1) := by decide +kernel
theorem dL_sets_39 : decode cL_sets 39 = .ok (.astore 4, 2) := by decide +kernel
theorem dL_sets_41 : decode cL_sets 41 = .ok (.bipush (-102), 2) := by decide +kernel
theorem dL_sets_43 : decode cL_sets 43 = .ok (.ireturn, 1) := by decide +kernel
theorem dL_sets_44 : decode cL_sets 44 = .ok (.astore 4, 2) := by decide +kernel
theorem dL_sets_46 : decode cL_sets 46 = .ok (.bipush (-103), 2) := by decide +kernel
theorem dL_sets_48 : decode cL_sets 48 = .ok (.ireturn, 1) := by decide +kernel
set_option maxRecDepth 20000 in
theorem ggL_chains_X0_drop : GoodIn wsL_chains wsX0_drop := goodIn_ca (goodIn_ca (goodIn_r _ [7, 8, 9, 10, 11, 12, 13, 14, 6, 15, 16, 17, 18, 19, 20, 21, 22, 23, 24, 25, 26, 27, 28, 29, 30, 31, 32, 89, 90, 91, 92, 93, 94, 95, 96, 97, 98, 99, 100, 101, 102, 103] (by decide +kernel) (by decide +kernel)) (goodIn_sub (fun _ h => List.mem_cons_of_mem _ (List.mem_append_left _ (List.mem_append_right _ h))) (by decide +kernel))) (goodIn_sub (fun _ h => List.mem_cons_of_mem _ (List.mem_append_right _ h)) (by decide +kernel))
set_option maxRecDepth 20000 in
theorem gL_chains_X0_drop : GoodIn wsL_chains (wsV RL 55 RX0 yX0_drop wsX0_drop) := goodIn_app (goodIn_of _ (by decide +kernel)) ggL_chains_X0_drop
set_option maxRecDepth 20000 in
theorem ggL_chains_X0_sign : GoodIn wsL_chains wsX0_sign := goodIn_ca (goodIn_r _ [36, 23, 12, 13, 14, 6, 15, 16, 17, 18, 24, 25, 26, 89, 90, 91, 92, 93, 94, 95, 96, 97, 98, 99, 100, 101, 102, 103] (by decide +kernel) (by decide +kernel)) (goodIn_sub (fun _ h => List.mem_cons_of_mem _ (List.mem_append_right _ h)) (by decide +kernel))
set_option maxRecDepth 20000 in
theorem gL_chains_X0_sign : GoodIn wsL_chains (wsV RL 58 RX0 yX0_sign wsX0_sign) := goodIn_app (goodIn_of _ (by decide +kernel)) ggL_chains_X0_sign
set_option maxRecDepth 20000 in
theorem ggL_chains_X0_gap : GoodIn wsL_chains wsX0_gap := goodIn_ca (goodIn_r _ [40, 12, 13, 14, 6, 15, 16, 17, 18, 41, 42, 43, 44, 45, 46, 47, 48, 49, 50, 51, 52, 53, 54, 55, 56, 57, 58, 59, 60, 61, 62, 10, 11, 27, 28, 29, 63, 64, 65, 66, 67, 68, 69, 70, 71, 72, 73, 74, 75, 76, 77, 78, 79, 80, 81, 82, 83, 84, 30, 31, 32, 89, 90, 91, 92, 93, 94, 95, 96, 97, 98, 99, 100, 101, 102, 103] (by decide +kernel) (by decide +kernel)) (goodIn_sub (fun _ h => List.mem_cons_of_mem _ (List.mem_append_right _ h)) (by decide +kernel))
set_option maxRecDepth 20000 in
theorem gL_chains_X0_gap : GoodIn wsL_chains (wsV RL 62 RX0 yX0_gap wsX0_gap) := goodIn_app (goodIn_of _ (by decide +kernel)) ggL_chains_X0_gap
set_option maxRecDepth 20000 in
theorem ggL_chains_X0_greyGap : GoodIn wsL_chains wsX0_greyGap := goodIn_ca (goodIn_r _ [88, 56, 57, 48, 58, 50, 51, 52, 12, 13, 14, 6, 15, 16, 17, 18, 59, 60, 61, 62, 10, 11, 27, 28, 29, 63, 64, 65, 66, 67, 68, 69, 70, 71, 72, 73, 74, 75, 76, 77, 78, 79, 80, 81, 82, 83, 84, 89, 90, 91, 92, 93, 94, 95, 96, 97, 98, 99, 100, 101, 102, 103] (by decide +kernel) (by decide +kernel)) (goodIn_sub (fun _ h => List.mem_cons_of_mem _ (List.mem_append_right _ h)) (by decide +kernel))
set_option maxRecDepth 20000 in
theorem gL_chains_X0_greyGap : GoodIn wsL_chains (wsV RL 65 RX0 yX0_greyGap wsX0_greyGap) := goodIn_app (goodIn_of _ (by decide +kernel)) ggL_chains_X0_greyGap
theorem dL_chains_0 : decode cL_chains 0 = .ok (.iload_n 1, 1) := by decide +kernel
theorem dL_chains_1 : decode cL_chains 1 = .ok (.ifCond .ne 11, 3) := by decide +kernel
theorem dL_chains_4 : decode cL_chains 4 = .ok (.aload_n 0, 1) := by decide +kernel
theorem dL_chains_5 : decode cL_chains 5 = .ok (.iload_n 2, 1) := by decide +kernel
theorem dL_chains_6 : decode cL_chains 6 = .ok (.invokevirtual 55, 3) := by decide +kernel
theorem dL_chains_9 : decode cL_chains 9 = .ok (.goto 42, 3) := by decide +kernel
theorem dL_chains_12 : decode cL_chains 12 = .ok (.iload_n 1, 1) := by decide +kernel
theorem dL_chains_13 : decode cL_chains 13 = .ok (.iconst 1, 1) := by decide +kernel
theorem dL_chains_14 : decode cL_chains 14 = .ok (.if_icmp .ne 19, 3) := by decide +kernel
theorem dL_chains_17 : decode cL_chains 17 = .ok (.aload_n 0, 1) := by decide +kernel
theorem dL_chains_18 : decode cL_chains 18 = .ok (.iload_n 2, 1) := by decide +kernel
theorem dL_chains_19 : decode cL_chains 19 = .ok (.invokevirtual 58, 3) := by decide +kernel
theorem dL_chains_22 : decode cL_chains 22 = .ok (.ifCond .eq 7, 3) := by decide +kernel
theorem dL_chains_25 : decode cL_chains 25 = .ok (.iconst 1, 1) := by decide +kernel
theorem dL_chains_26 : decode cL_chains 26 = .ok (.goto 25, 3) := by decide +kernel
theorem dL_chains_29 : decode cL_chains 29 = .ok (.iconst 0, 1) := by decide +kernel
theorem dL_chains_30 : decode cL_chains 30 = .ok (.goto 21, 3) := by decide +kernel
theorem dL_chains_33 : decode cL_chains 33 = .ok (.iload_n 1, 1) := by decide +kernel
theorem dL_chains_34 : decode cL_chains 34 = .ok (.iconst 2, 1) := by decide +kernel
theorem dL_chains_35 : decode cL_chains 35 = .ok (.if_icmp .ne 11, 3) := by decide +kernel
theorem dL_chains_38 : decode cL_chains 38 = .ok (.aload_n 0, 1) := by decide +kernel
theorem dL_chains_39 : decode cL_chains 39 = .ok (.iload_n 2, 1) := by decide +kernel
theorem dL_chains_40 : decode cL_chains 40 = .ok (.invokevirtual 62, 3) := by decide +kernel
theorem dL_chains_43 : decode cL_chains 43 = .ok (.goto 8, 3) := by decide +kernel
theorem dL_chains_46 : decode cL_chains 46 = .ok (.aload_n 0, 1) := by decide +kernel
theorem dL_chains_47 : decode cL_chains 47 = .ok (.iload_n 2, 1) := by decide +kernel
theorem dL_chains_48 : decode cL_chains 48 = .ok (.invokevirtual 65, 3) := by decide +kernel
theorem dL_chains_51 : decode cL_chains 51 = .ok (.ireturn, 1) := by decide +kernel
theorem dL_chains_52 : decode cL_chains 52 = .ok (.astore_n 3, 1) := by decide +kernel
theorem dL_chains_53 : decode cL_chains 53 = .ok (.bipush (-101), 2) := by decide +kernel
theorem dL_chains_55 : decode cL_chains 55 = .ok (.ireturn, 1) := by decide +kernel
theorem dL_chains_56 : decode cL_chains 56 = .ok (.astore_n 3, 1) := by decide +kernel
theorem dL_chains_57 : decode cL_chains 57 = .ok (.bipush (-103), 2) := by decide +kernel
theorem dL_chains_59 : decode cL_chains 59 = .ok (.ireturn, 1) := by decide +kernel
set_option maxRecDepth 20000 in
theorem ggL_of_X0_curve : GoodIn wsL_of wsX0_curve := goodIn_ca (goodIn_ca (goodIn_r _ [8, 9, 10, 11, 7, 12, 13, 14, 15, 16, 17, 18, 19, 20, 21, 22, 23, 24, 25, 26, 27, 28, 29, 30, 31, 32, 33, 34, 35, 36, 37, 38, 86, 87, 88, 89, 90, 91, 92, 93, 94, 95, 96, 97, 98, 99, 100] (by decide +kernel) (by decide +kernel)) (goodIn_sub (fun _ h => List.mem_cons_of_mem _ (List.mem_append_left _ (List.mem_append_left _ (List.mem_append_right _ h)))) (by decide +kernel))) (goodIn_sub (fun _ h => List.mem_cons_of_mem _ (List.mem_append_left _ (List.mem_append_right _ h))) (by decide +kernel))
set_option maxRecDepth 20000 in
theorem gL_of_X0_curve : GoodIn wsL_of (wsV RL 68 RX0 yX0_curve wsX0_curve) := goodIn_app (goodIn_of _ (by decide +kernel)) ggL_of_X0_curve
set_option maxRecDepth 20000 in
theorem ggL_of_X0_taken : GoodIn wsL_of wsX0_taken := goodIn_ca (goodIn_ca (goodIn_r _ [42, 9, 10, 11, 7, 12, 13, 14, 15, 16, 17, 18, 19, 20, 21, 22, 23, 43, 44, 45, 46, 47, 48, 49, 50, 51, 52, 53, 54, 55, 56, 32, 33, 34, 24, 25, 26, 27, 28, 29, 30, 31, 35, 36, 37, 38, 57, 58, 59, 86, 87, 88, 89, 90, 91, 92, 93, 94, 95, 96, 97, 98, 99, 100] (by decide +kernel) (by decide +kernel)) (goodIn_sub (fun _ h => List.mem_cons_of_mem _ (List.mem_append_left _ (List.mem_append_left _ (List.mem_append_right _ h)))) (by decide +kernel))) (goodIn_sub (fun _ h => List.mem_cons_of_mem _ (List.mem_append_left _ (List.mem_append_right _ h))) (by decide +kernel))
set_option maxRecDepth 20000 in
theorem gL_of_X0_taken : GoodIn wsL_of (wsV RL 72 RX0 yX0_taken wsX0_taken) := goodIn_app (goodIn_of _ (by decide +kernel)) ggL_of_X0_taken
set_option maxRecDepth 20000 in
theorem ggL_of_X0_through : GoodIn wsL_of wsX0_through := goodIn_ca (goodIn_ca (goodIn_r _ [63, 64, 65, 66, 7, 67, 13, 14, 68, 16, 17, 18, 19, 20, 21, 22, 23, 69, 70, 71, 72, 73, 74, 32, 33, 34, 43, 44, 45, 46, 47, 48, 49, 50, 51, 52, 53, 54, 55, 56, 24, 25, 26, 27, 28, 29, 30, 31, 35, 36, 37, 38, 57, 58, 59, 86, 87, 88, 89, 90, 91, 92, 93, 94, 95, 96, 97, 98, 99, 100] (by decide +kernel) (by decide +kernel)) (goodIn_sub (fun _ h => List.mem_cons_of_mem _ (List.mem_append_left _ (List.mem_append_left _ (List.mem_append_right _ h)))) (by decide +kernel))) (goodIn_sub (fun _ h => List.mem_cons_of_mem _ (List.mem_append_left _ (List.mem_append_right _ h))) (by decide +kernel))
set_option maxRecDepth 20000 in
theorem gL_of_X0_through : GoodIn wsL_of (wsV RL 74 RX0 yX0_through wsX0_through) := goodIn_app (goodIn_of _ (by decide +kernel)) ggL_of_X0_through
set_option maxRecDepth 20000 in
theorem ggL_of_X0_joined : GoodIn wsL_of wsX0_joined := goodIn_ca (goodIn_ca (goodIn_ca (goodIn_r _ [78, 79, 80, 81, 82, 64, 65, 66, 7, 67, 13, 14, 68, 16, 17, 18, 19, 20, 21, 22, 23, 83, 84, 85, 29, 30, 31, 32, 33, 34, 35, 36, 37, 38, 86, 87, 88, 89, 90, 91, 92, 93, 94, 95, 96, 97, 98, 99, 100] (by decide +kernel) (by decide +kernel)) (goodIn_sub (fun _ h => List.mem_cons_of_mem _ (List.mem_append_right _ h)) (by decide +kernel))) (goodIn_sub (fun _ h => List.mem_cons_of_mem _ (List.mem_append_left _ (List.mem_append_left _ (List.mem_append_right _ h)))) (by decide +kernel))) (goodIn_sub (fun _ h => List.mem_cons_of_mem _ (List.mem_append_left _ (List.mem_append_right _ h))) (by decide +kernel))
set_option maxRecDepth 20000 in
theorem gL_of_X0_joined : GoodIn wsL_of (wsV RL 76 RX0 yX0_joined wsX0_joined) := goodIn_app (goodIn_of _ (by decide +kernel)) ggL_of_X0_joined
theorem dL_of_0 : decode cL_of 0 = .ok (.iload_n 1, 1) := by decide +kernel
theorem dL_of_1 : decode cL_of 1 = .ok (.ifCond .ne 14, 3) := by decide +kernel
theorem dL_of_4 : decode cL_of 4 = .ok (.aload_n 0, 1) := by decide +kernel
theorem dL_of_5 : decode cL_of 5 = .ok (.iload_n 2, 1) := by decide +kernel
theorem dL_of_6 : decode cL_of 6 = .ok (.iload_n 3, 1) := by decide +kernel
theorem dL_of_7 : decode cL_of 7 = .ok (.iload 4, 2) := by decide +kernel
theorem dL_of_9 : decode cL_of 9 = .ok (.invokevirtual 68, 3) := by decide +kernel
theorem dL_of_12 : decode cL_of 12 = .ok (.goto 43, 3) := by decide +kernel
theorem dL_of_15 : decode cL_of 15 = .ok (.iload_n 1, 1) := by decide +kernel
theorem dL_of_16 : decode cL_of 16 = .ok (.iconst 1, 1) := by decide +kernel
theorem dL_of_17 : decode cL_of 17 = .ok (.if_icmp .ne 14, 3) := by decide +kernel
theorem dL_of_20 : decode cL_of 20 = .ok (.aload_n 0, 1) := by decide +kernel
theorem dL_of_21 : decode cL_of 21 = .ok (.iload_n 2, 1) := by decide +kernel
theorem dL_of_22 : decode cL_of 22 = .ok (.iload_n 3, 1) := by decide +kernel
theorem dL_of_23 : decode cL_of 23 = .ok (.iload 4, 2) := by decide +kernel
theorem dL_of_25 : decode cL_of 25 = .ok (.invokevirtual 72, 3) := by decide +kernel
theorem dL_of_28 : decode cL_of 28 = .ok (.goto 27, 3) := by decide +kernel
theorem dL_of_31 : decode cL_of 31 = .ok (.iload_n 1, 1) := by decide +kernel
theorem dL_of_32 : decode cL_of 32 = .ok (.iconst 2, 1) := by decide +kernel
theorem dL_of_33 : decode cL_of 33 = .ok (.if_icmp .ne 14, 3) := by decide +kernel
theorem dL_of_36 : decode cL_of 36 = .ok (.aload_n 0, 1) := by decide +kernel
theorem dL_of_37 : decode cL_of 37 = .ok (.iload_n 2, 1) := by decide +kernel
theorem dL_of_38 : decode cL_of 38 = .ok (.iload_n 3, 1) := by decide +kernel
theorem dL_of_39 : decode cL_of 39 = .ok (.iload 4, 2) := by decide +kernel
theorem dL_of_41 : decode cL_of 41 = .ok (.invokevirtual 74, 3) := by decide +kernel
theorem dL_of_44 : decode cL_of 44 = .ok (.goto 11, 3) := by decide +kernel
theorem dL_of_47 : decode cL_of 47 = .ok (.aload_n 0, 1) := by decide +kernel
theorem dL_of_48 : decode cL_of 48 = .ok (.iload_n 2, 1) := by decide +kernel
theorem dL_of_49 : decode cL_of 49 = .ok (.iload_n 3, 1) := by decide +kernel
theorem dL_of_50 : decode cL_of 50 = .ok (.iload 4, 2) := by decide +kernel
theorem dL_of_52 : decode cL_of 52 = .ok (.invokevirtual 76, 3) := by decide +kernel
theorem dL_of_55 : decode cL_of 55 = .ok (.ireturn, 1) := by decide +kernel
theorem dL_of_56 : decode cL_of 56 = .ok (.astore 5, 2) := by decide +kernel
theorem dL_of_58 : decode cL_of 58 = .ok (.bipush (-101), 2) := by decide +kernel
theorem dL_of_60 : decode cL_of 60 = .ok (.ireturn, 1) := by decide +kernel
theorem dL_of_61 : decode cL_of 61 = .ok (.astore 5, 2) := by decide +kernel
theorem dL_of_63 : decode cL_of 63 = .ok (.bipush (-102), 2) := by decide +kernel
theorem dL_of_65 : decode cL_of 65 = .ok (.ireturn, 1) := by decide +kernel
theorem dL_of_66 : decode cL_of 66 = .ok (.astore 5, 2) := by decide +kernel
theorem dL_of_68 : decode cL_of 68 = .ok (.bipush (-103), 2) := by decide +kernel
theorem dL_of_70 : decode cL_of 70 = .ok (.ireturn, 1) := by decide +kernel
set_option maxRecDepth 20000 in
theorem ggL_paints_X0_paint : GoodIn wsL_paints wsX0_paint := goodIn_ca (goodIn_ca (goodIn_r _ [7, 8, 9, 10, 6, 11, 12, 13, 14, 15, 16, 17, 18, 19, 20, 21, 22, 23, 24, 38, 39, 40, 41, 42, 43, 44, 45, 46, 47, 48, 49, 50, 51, 52] (by decide +kernel) (by decide +kernel)) (goodIn_sub (fun _ h => List.mem_cons_of_mem _ (List.mem_append_left _ (List.mem_append_right _ h))) (by decide +kernel))) (goodIn_sub (fun _ h => List.mem_cons_of_mem _ (List.mem_append_right _ h)) (by decide +kernel))
set_option maxRecDepth 20000 in
theorem gL_paints_X0_paint : GoodIn wsL_paints (wsV RL 79 RX0 yX0_paint wsX0_paint) := goodIn_app (goodIn_of _ (by decide +kernel)) ggL_paints_X0_paint
set_option maxRecDepth 20000 in
theorem ggL_paints_X0_spot : GoodIn wsL_paints wsX0_spot := goodIn_ca (goodIn_ca (goodIn_r _ [28, 29, 9, 10, 6, 11, 12, 13, 30, 31, 32, 17, 18, 19, 20, 21, 22, 23, 24, 38, 39, 40, 41, 42, 43, 44, 45, 46, 47, 48, 49, 50, 51, 52] (by decide +kernel) (by decide +kernel)) (goodIn_sub (fun _ h => List.mem_cons_of_mem _ (List.mem_append_left _ (List.mem_append_right _ h))) (by decide +kernel))) (goodIn_sub (fun _ h => List.mem_cons_of_mem _ (List.mem_append_right _ h)) (by decide +kernel))
set_option maxRecDepth 20000 in
theorem gL_paints_X0_spot : GoodIn wsL_paints (wsV RL 82 RX0 yX0_spot wsX0_spot) := goodIn_app (goodIn_of _ (by decide +kernel)) ggL_paints_X0_spot
set_option maxRecDepth 20000 in
theorem ggL_paints_X0_mix : GoodIn wsL_paints wsX0_mix := goodIn_ca (goodIn_ca (goodIn_r _ [36, 37, 30, 31, 6, 32, 12, 13, 14, 15, 16, 17, 18, 19, 20, 21, 22, 23, 24, 38, 39, 40, 41, 42, 43, 44, 45, 46, 47, 48, 49, 50, 51, 52] (by decide +kernel) (by decide +kernel)) (goodIn_sub (fun _ h => List.mem_cons_of_mem _ (List.mem_append_left _ (List.mem_append_right _ h))) (by decide +kernel))) (goodIn_sub (fun _ h => List.mem_cons_of_mem _ (List.mem_append_right _ h)) (by decide +kernel))
set_option maxRecDepth 20000 in
theorem gL_paints_X0_mix : GoodIn wsL_paints (wsV RL 85 RX0 yX0_mix wsX0_mix) := goodIn_app (goodIn_of _ (by decide +kernel)) ggL_paints_X0_mix
theorem dL_paints_0 : decode cL_paints 0 = .ok (.iload_n 1, 1) := by decide +kernel
theorem dL_paints_1 : decode cL_paints 1 = .ok (.ifCond .ne 14, 3) := by decide +kernel
theorem dL_paints_4 : decode cL_paints 4 = .ok (.aload_n 0, 1) := by decide +kernel
theorem dL_paints_5 : decode cL_paints 5 = .ok (.iload_n 2, 1) := by decide +kernel
theorem dL_paints_6 : decode cL_paints 6 = .ok (.iload_n 3, 1) := by decide +kernel
theorem dL_paints_7 : decode cL_paints 7 = .ok (.iload 4, 2) := by decide +kernel
theorem dL_paints_9 : decode cL_paints 9 = .ok (.invokevirtual 79, 3) := by decide +kernel
theorem dL_paints_12 : decode cL_paints 12 = .ok (.goto 27, 3) := by decide +kernel
theorem dL_paints_15 : decode cL_paints 15 = .ok (.iload_n 1, 1) := by decide +kernel
theorem dL_paints_16 : decode cL_paints 16 = .ok (.iconst 1, 1) := by decide +kernel
theorem dL_paints_17 : decode cL_paints 17 = .ok (.if_icmp .ne 14, 3) := by decide +kernel
theorem dL_paints_20 : decode cL_paints 20 = .ok (.aload_n 0, 1) := by decide +kernel
theorem dL_paints_21 : decode cL_paints 21 = .ok (.iload_n 2, 1) := by decide +kernel
theorem dL_paints_22 : decode cL_paints 22 = .ok (.iload_n 3, 1) := by decide +kernel
theorem dL_paints_23 : decode cL_paints 23 = .ok (.iload 4, 2) := by decide +kernel
theorem dL_paints_25 : decode cL_paints 25 = .ok (.invokevirtual 82, 3) := by decide +kernel
theorem dL_paints_28 : decode cL_paints 28 = .ok (.goto 11, 3) := by decide +kernel
theorem dL_paints_31 : decode cL_paints 31 = .ok (.aload_n 0, 1) := by decide +kernel
theorem dL_paints_32 : decode cL_paints 32 = .ok (.iload_n 2, 1) := by decide +kernel
theorem dL_paints_33 : decode cL_paints 33 = .ok (.iload_n 3, 1) := by decide +kernel
theorem dL_paints_34 : decode cL_paints 34 = .ok (.iload 4, 2) := by decide +kernel
theorem dL_paints_36 : decode cL_paints 36 = .ok (.invokevirtual 85, 3) := by decide +kernel
theorem dL_paints_39 : decode cL_paints 39 = .ok (.ireturn, 1) := by decide +kernel
theorem dL_paints_40 : decode cL_paints 40 = .ok (.astore 5, 2) := by decide +kernel
theorem dL_paints_42 : decode cL_paints 42 = .ok (.bipush (-101), 2) := by decide +kernel
theorem dL_paints_44 : decode cL_paints 44 = .ok (.ireturn, 1) := by decide +kernel
theorem dL_paints_45 : decode cL_paints 45 = .ok (.astore 5, 2) := by decide +kernel
theorem dL_paints_47 : decode cL_paints 47 = .ok (.bipush (-102), 2) := by decide +kernel
theorem dL_paints_49 : decode cL_paints 49 = .ok (.ireturn, 1) := by decide +kernel
set_option maxRecDepth 20000 in
theorem ggL_shows_X0_shown : GoodIn wsL_shows wsX0_shown := goodIn_ca (goodIn_ca (goodIn_r _ [7, 8, 9, 10, 11, 12, 6, 13, 14, 15, 16, 17, 18, 19, 20, 21, 22, 23, 24, 25, 26, 27, 28, 29, 30, 31, 32, 33, 34, 35, 36, 37, 38, 39, 40, 41, 42, 43, 44, 45, 46, 47, 48, 49, 50, 51, 52, 53, 54, 55, 56, 57, 58, 59, 60, 61, 62, 63, 64, 65, 66, 67, 68, 69, 70, 71, 72, 73, 74, 75, 76, 77, 78, 79, 80, 81, 82, 83, 84, 85] (by decide +kernel) (by decide +kernel)) (goodIn_sub (fun _ h => List.mem_cons_of_mem _ (List.mem_append_left _ (List.mem_append_right _ h))) (by decide +kernel))) (goodIn_sub (fun _ h => List.mem_cons_of_mem _ (List.mem_append_right _ h)) (by decide +kernel))
set_option maxRecDepth 20000 in
theorem gL_shows_X0_shown : GoodIn wsL_shows (wsV RL 88 RX0 yX0_shown wsX0_shown) := goodIn_app (goodIn_of _ (by decide +kernel)) ggL_shows_X0_shown
theorem dL_shows_0 : decode cL_shows 0 = .ok (.aload_n 0, 1) := by decide +kernel
theorem dL_shows_1 : decode cL_shows 1 = .ok (.iload_n 1, 1) := by decide +kernel
theorem dL_shows_2 : decode cL_shows 2 = .ok (.iload_n 2, 1) := by decide +kernel
theorem dL_shows_3 : decode cL_shows 3 = .ok (.iload_n 3, 1) := by decide +kernel
theorem dL_shows_4 : decode cL_shows 4 = .ok (.iload 4, 2) := by decide +kernel
theorem dL_shows_6 : decode cL_shows 6 = .ok (.invokevirtual 88, 3) := by decide +kernel
theorem dL_shows_9 : decode cL_shows 9 = .ok (.ireturn, 1) := by decide +kernel
theorem dL_shows_10 : decode cL_shows 10 = .ok (.astore 5, 2) := by decide +kernel
theorem dL_shows_12 : decode cL_shows 12 = .ok (.bipush (-101), 2) := by decide +kernel
theorem dL_shows_14 : decode cL_shows 14 = .ok (.ireturn, 1) := by decide +kernel
theorem dL_shows_15 : decode cL_shows 15 = .ok (.astore 5, 2) := by decide +kernel
theorem dL_shows_17 : decode cL_shows 17 = .ok (.bipush (-102), 2) := by decide +kernel
theorem dL_shows_19 : decode cL_shows 19 = .ok (.ireturn, 1) := by decide +kernel
set_option maxRecDepth 20000 in
theorem ggL_value_L_some : GoodIn wsL_value wsL_some := goodIn_r _ [4] (by decide +kernel) (by decide +kernel)
set_option maxRecDepth 20000 in
theorem gL_value_L_some : GoodIn wsL_value (va_wsS RL 91 yL_some wsL_some) := goodIn_app (goodIn_of _ (by decide +kernel)) ggL_value_L_some
theorem dL_value_0 : decode cL_value 0 = .ok (.iload_n 0, 1) := by decide +kernel
theorem dL_value_1 : decode cL_value 1 = .ok (.bipush 40, 2) := by decide +kernel
theorem dL_value_3 : decode cL_value 3 = .ok (.invokestatic 91, 3) := by decide +kernel
theorem dL_value_6 : decode cL_value 6 = .ok (.ifCond .ne 9, 3) := by decide +kernel
theorem dL_value_9 : decode cL_value 9 = .ok (.sipush 256, 3) := by decide +kernel
theorem dL_value_12 : decode cL_value 12 = .ok (.goto 46, 3) := by decide +kernel
theorem dL_value_15 : decode cL_value 15 = .ok (.iload_n 0, 1) := by decide +kernel
theorem dL_value_16 : decode cL_value 16 = .ok (.bipush 60, 2) := by decide +kernel
theorem dL_value_18 : decode cL_value 18 = .ok (.invokestatic 91, 3) := by decide +kernel
theorem dL_value_21 : decode cL_value 21 = .ok (.iconst 1, 1) := by decide +kernel
theorem dL_value_22 : decode cL_value 22 = .ok (.if_icmp .ne 7, 3) := by decide +kernel
theorem dL_value_25 : decode cL_value 25 = .ok (.iconst (-1), 1) := by decide +kernel
theorem dL_value_26 : decode cL_value 26 = .ok (.goto 32, 3) := by decide +kernel
theorem dL_value_29 : decode cL_value 29 = .ok (.iload_n 0, 1) := by decide +kernel
theorem dL_value_30 : decode cL_value 30 = .ok (.iconst 3, 1) := by decide +kernel
theorem dL_value_31 : decode cL_value 31 = .ok (.invokestatic 91, 3) := by decide +kernel
theorem dL_value_34 : decode cL_value 34 = .ok (.ifCond .ne 17, 3) := by decide +kernel
theorem dL_value_37 : decode cL_value 37 = .ok (.sipush 255, 3) := by decide +kernel
theorem dL_value_40 : decode cL_value 40 = .ok (.iload_n 0, 1) := by decide +kernel
theorem dL_value_41 : decode cL_value 41 = .ok (.iconst 3, 1) := by decide +kernel
theorem dL_value_42 : decode cL_value 42 = .ok (.ishr, 1) := by decide +kernel
theorem dL_value_43 : decode cL_value 43 = .ok (.iconst 2, 1) := by decide +kernel
theorem dL_value_44 : decode cL_value 44 = .ok (.invokestatic 91, 3) := by decide +kernel
theorem dL_value_47 : decode cL_value 47 = .ok (.imul, 1) := by decide +kernel
theorem dL_value_48 : decode cL_value 48 = .ok (.goto 10, 3) := by decide +kernel
theorem dL_value_51 : decode cL_value 51 = .ok (.iload_n 0, 1) := by decide +kernel
theorem dL_value_52 : decode cL_value 52 = .ok (.sipush 256, 3) := by decide +kernel
theorem dL_value_55 : decode cL_value 55 = .ok (.invokestatic 91, 3) := by decide +kernel
theorem dL_value_58 : decode cL_value 58 = .ok (.ireturn, 1) := by decide +kernel
set_option maxRecDepth 20000 in
theorem ggL_profiles_L_some : GoodIn wsL_profiles wsL_some := goodIn_r _ [4] (by decide +kernel) (by decide +kernel)
set_option maxRecDepth 20000 in
theorem gL_profiles_L_some : GoodIn wsL_profiles (va_wsS RL 91 yL_some wsL_some) := goodIn_app (goodIn_of _ (by decide +kernel)) ggL_profiles_L_some
set_option maxRecDepth 20000 in
theorem ggL_profiles_L_held : GoodIn wsL_profiles wsL_held := goodIn_r _ [7] (by decide +kernel) (by decide +kernel)
set_option maxRecDepth 20000 in
theorem gL_profiles_L_held : GoodIn wsL_profiles (va_wsS RL 94 yL_held wsL_held) := goodIn_app (goodIn_of _ (by decide +kernel)) ggL_profiles_L_held
set_option maxRecDepth 20000 in
theorem ggL_profiles_L_value : GoodIn wsL_profiles wsL_value := goodIn_r _ [10, 1, 2, 3, 4] (by decide +kernel) (by decide +kernel)
set_option maxRecDepth 20000 in
theorem gL_profiles_L_value : GoodIn wsL_profiles (va_wsS RL 98 yL_value wsL_value) := goodIn_app (goodIn_of _ (by decide +kernel)) ggL_profiles_L_value
set_option maxRecDepth 20000 in
theorem ggL_profiles_L_bends : GoodIn wsL_profiles wsL_bends := goodIn_ca (goodIn_ca (goodIn_ca (goodIn_r _ [13, 14, 15, 16, 17, 18, 19, 20, 21, 22, 23, 24, 25, 26, 27, 28, 29, 30, 31, 32, 33, 34, 35, 36, 37, 38, 39, 40, 41, 42, 43, 44, 45, 46, 47, 48, 49, 50, 51, 52, 53, 54, 55, 56, 57, 58, 59, 60, 61, 62, 63, 140, 141, 142, 143, 144, 145, 146, 147, 148, 149, 150, 151, 152, 153, 154] (by decide +kernel) (by decide +kernel)) (goodIn_sub (fun _ h => List.mem_cons_of_mem _ (List.mem_append_left _ (List.mem_append_left _ (List.mem_append_right _ h)))) (by decide +kernel))) (goodIn_sub (fun _ h => List.mem_cons_of_mem _ (List.mem_append_left _ (List.mem_append_right _ h))) (by decide +kernel))) (goodIn_sub (fun _ h => List.mem_cons_of_mem _ (List.mem_append_right _ h)) (by decide +kernel))
set_option maxRecDepth 20000 in
theorem gL_profiles_L_bends : GoodIn wsL_profiles (va_wsS RL 101 yL_bends wsL_bends) := goodIn_app (goodIn_of _ (by decide +kernel)) ggL_profiles_L_bends
set_option maxRecDepth 20000 in
theorem ggL_profiles_L_reaches : GoodIn wsL_profiles wsL_reaches := goodIn_ca (goodIn_ca (goodIn_ca (goodIn_r _ [66, 14, 15, 16, 67, 68, 69, 20, 70, 36, 37, 71, 72, 25, 26, 27, 28, 22, 23, 29, 30, 31, 32, 33, 34, 35, 38, 39, 40, 41, 42, 43, 44, 45, 46, 47, 48, 49, 50, 51, 52, 53, 54, 55, 56, 57, 58, 59, 60, 61, 62, 63, 140, 141, 142, 143, 144, 145, 146, 147, 148, 149, 150, 151, 152, 153, 154] (by decide +kernel) (by decide +kernel)) (goodIn_sub (fun _ h => List.mem_cons_of_mem _ (List.mem_append_left _ (List.mem_append_right _ h))) (by decide +kernel))) (goodIn_sub (fun _ h => List.mem_cons_of_mem _ (List.mem_append_left _ (List.mem_append_left _ (List.mem_append_right _ h)))) (by decide +kernel))) (goodIn_sub (fun _ h => List.mem_cons_of_mem _ (List.mem_append_right _ h)) (by decide +kernel))
set_option maxRecDepth 20000 in
theorem gL_profiles_L_reaches : GoodIn wsL_profiles (va_wsS RL 105 yL_reaches wsL_reaches) := goodIn_app (goodIn_of _ (by decide +kernel)) ggL_profiles_L_reaches
set_option maxRecDepth 20000 in
theorem ggL_profiles_L_sets : GoodIn wsL_profiles wsL_sets := goodIn_ca (goodIn_ca (goodIn_ca (goodIn_r _ [75, 14, 15, 16, 76, 77, 78, 20, 79, 36, 37, 80, 25, 26, 27, 28, 22, 23, 29, 38, 39, 40, 41, 42, 43, 44, 45, 46, 47, 48, 49, 50, 51, 52, 53, 54, 55, 56, 57, 58, 59, 60, 61, 62, 63, 81, 82, 83, 84, 85, 86, 87, 88, 89, 90, 91, 92, 93, 94, 95, 96, 97, 98, 99, 100, 33, 34, 35, 101, 102, 103, 104, 105, 106, 107, 108, 109, 110, 111, 112, 113, 114, 115, 116, 117, 118, 119, 120, 121, 122, 123, 124, 125, 71, 72, 126, 127, 128, 129, 24, 130, 131, 132, 133, 134, 135, 136, 137, 138, 139, 140, 141, 142, 143, 144, 145, 146, 147, 148, 149, 150, 151, 152, 153, 154] (by decide +kernel) (by decide +kernel)) (goodIn_sub (fun _ h => List.mem_cons_of_mem _ (List.mem_append_left _ (List.mem_append_right _ h))) (by decide +kernel))) (goodIn_sub (fun _ h => List.mem_cons_of_mem _ (List.mem_append_left _ (List.mem_append_left _ (List.mem_append_right _ h)))) (by decide +kernel))) (goodIn_sub (fun _ h => List.mem_cons_of_mem _ (List.mem_append_right _ h)) (by decide +kernel))
set_option maxRecDepth 20000 in
theorem gL_profiles_L_sets : GoodIn wsL_profiles (va_wsS RL 108 yL_sets wsL_sets) := goodIn_app (goodIn_of _ (by decide +kernel)) ggL_profiles_L_sets
theorem dL_profiles_0 : decode cL_profiles 0 = .ok (.iload_n 2, 1) := by decide +kernel
theorem dL_profiles_1 : decode cL_profiles 1 = .ok (.aload_n 3, 1) := by decide +kernel
theorem dL_profiles_2 : decode cL_profiles 2 = .ok (.iconst 0, 1) := by decide +kernel
theorem dL_profiles_3 : decode cL_profiles 3 = .ok (.iaload, 1) := by decide +kernel
theorem dL_profiles_4 : decode cL_profiles 4 = .ok (.iconst 1, 1) := by decide +kernel
theorem dL_profiles_5 : decode cL_profiles 5 = .ok (.iadd, 1) := by decide +kernel
theorem dL_profiles_6 : decode cL_profiles 6 = .ok (.invokestatic 91, 3) := by decide +kernel
theorem dL_profiles_9 : decode cL_profiles 9 = .ok (.iload_n 2, 1) := by decide +kernel
theorem dL_profiles_10 : decode cL_profiles 10 = .ok (.bipush 11, 2) := by decide +kernel
theorem dL_profiles_12 : decode cL_profiles 12 = .ok (.ishr, 1) := by decide +kernel
theorem dL_profiles_13 : decode cL_profiles 13 = .ok (.bipush 19, 2) := by decide +kernel
theorem dL_profiles_15 : decode cL_profiles 15 = .ok (.invokestatic 91, 3) := by decide +kernel
theorem dL_profiles_18 : decode cL_profiles 18 = .ok (.ifCond .ne 7, 3) := by decide +kernel
theorem dL_profiles_21 : decode cL_profiles 21 = .ok (.iconst 1, 1) := by decide +kernel
theorem dL_profiles_22 : decode cL_profiles 22 = .ok (.goto 4, 3) := by decide +kernel
theorem dL_profiles_25 : decode cL_profiles 25 = .ok (.iconst 0, 1) := by decide +kernel
theorem dL_profiles_26 : decode cL_profiles 26 = .ok (.isub, 1) := by decide +kernel
theorem dL_profiles_27 : decode cL_profiles 27 = .ok (.istore 7, 2) := by decide +kernel
theorem dL_profiles_29 : decode cL_profiles 29 = .ok (.iload_n 2, 1) := by decide +kernel
theorem dL_profiles_30 : decode cL_profiles 30 = .ok (.iconst 3, 1) := by decide +kernel
theorem dL_profiles_31 : decode cL_profiles 31 = .ok (.ishr, 1) := by decide +kernel
theorem dL_profiles_32 : decode cL_profiles 32 = .ok (.bipush 40, 2) := by decide +kernel
theorem dL_profiles_34 : decode cL_profiles 34 = .ok (.invokestatic 91, 3) := by decide +kernel
theorem dL_profiles_37 : decode cL_profiles 37 = .ok (.ifCond .ne 7, 3) := by decide +kernel
theorem dL_profiles_40 : decode cL_profiles 40 = .ok (.iconst 3, 1) := by decide +kernel
theorem dL_profiles_41 : decode cL_profiles 41 = .ok (.goto 10, 3) := by decide +kernel
theorem dL_profiles_44 : decode cL_profiles 44 = .ok (.iload_n 2, 1) := by decide +kernel
theorem dL_profiles_45 : decode cL_profiles 45 = .ok (.iconst 3, 1) := by decide +kernel
theorem dL_profiles_46 : decode cL_profiles 46 = .ok (.ishr, 1) := by decide +kernel
theorem dL_profiles_47 : decode cL_profiles 47 = .ok (.iconst 3, 1) := by decide +kernel
theorem dL_profiles_48 : decode cL_profiles 48 = .ok (.invokestatic 91, 3) := by decide +kernel
theorem dL_profiles_51 : decode cL_profiles 51 = .ok (.istore 8, 2) := by decide +kernel
theorem dL_profiles_53 : decode cL_profiles 53 = .ok (.iload 7, 2) := by decide +kernel
theorem dL_profiles_55 : decode cL_profiles 55 = .ok (.ifCond .lt 15, 3) := by decide +kernel
theorem dL_profiles_58 : decode cL_profiles 58 = .ok (.iload 7, 2) := by decide +kernel
theorem dL_profiles_60 : decode cL_profiles 60 = .ok (.aload_n 3, 1) := by decide +kernel
theorem dL_profiles_61 : decode cL_profiles 61 = .ok (.iconst 0, 1) := by decide +kernel
theorem dL_profiles_62 : decode cL_profiles 62 = .ok (.iaload, 1) := by decide +kernel
theorem dL_profiles_63 : decode cL_profiles 63 = .ok (.if_icmp .ge 7, 3) := by decide +kernel
theorem dL_profiles_66 : decode cL_profiles 66 = .ok (.iconst 1, 1) := by decide +kernel
theorem dL_profiles_67 : decode cL_profiles 67 = .ok (.goto 4, 3) := by decide +kernel
theorem dL_profiles_70 : decode cL_profiles 70 = .ok (.iconst 0, 1) := by decide +kernel
theorem dL_profiles_71 : decode cL_profiles 71 = .ok (.istore 9, 2) := by decide +kernel
theorem dL_profiles_73 : decode cL_profiles 73 = .ok (.iload 9, 2) := by decide +kernel
theorem dL_profiles_75 : decode cL_profiles 75 = .ok (.ifCond .eq 21, 3) := by decide +kernel
theorem dL_profiles_78 : decode cL_profiles 78 = .ok (.aload_n 3, 1) := by decide +kernel
theorem dL_profiles_79 : decode cL_profiles 79 = .ok (.aload 6, 2) := by decide +kernel
theorem dL_profiles_81 : decode cL_profiles 81 = .ok (.invokestatic 94, 3) := by decide +kernel
theorem dL_profiles_84 : decode cL_profiles 84 = .ok (.iload 7, 2) := by decide +kernel
theorem dL_profiles_86 : decode cL_profiles 86 = .ok (.ishr, 1) := by decide +kernel
theorem dL_profiles_87 : decode cL_profiles 87 = .ok (.iconst 1, 1) := by decide +kernel
theorem dL_profiles_88 : decode cL_profiles 88 = .ok (.iand, 1) := by decide +kernel
theorem dL_profiles_89 : decode cL_profiles 89 = .ok (.ifCond .ne 7, 3) := by decide +kernel
theorem dL_profiles_92 : decode cL_profiles 92 = .ok (.iconst 1, 1) := by decide +kernel
theorem dL_profiles_93 : decode cL_profiles 93 = .ok (.goto 4, 3) := by decide +kernel
theorem dL_profiles_96 : decode cL_profiles 96 = .ok (.iconst 0, 1) := by decide +kernel
theorem dL_profiles_97 : decode cL_profiles 97 = .ok (.istore 10, 2) := by decide +kernel
theorem dL_profiles_99 : decode cL_profiles 99 = .ok (.iload_n 1, 1) := by decide +kernel
theorem dL_profiles_100 : decode cL_profiles 100 = .ok (.ifCond .ne 161, 3) := by decide +kernel
theorem dL_profiles_103 : decode cL_profiles 103 = .ok (.iload_n 2, 1) := by decide +kernel
theorem dL_profiles_104 : decode cL_profiles 104 = .ok (.iconst 5, 1) := by decide +kernel
theorem dL_profiles_105 : decode cL_profiles 105 = .ok (.ishr, 1) := by decide +kernel
theorem dL_profiles_106 : decode cL_profiles 106 = .ok (.bipush 40, 2) := by decide +kernel
theorem dL_profiles_108 : decode cL_profiles 108 = .ok (.invokestatic 91, 3) := by decide +kernel
theorem dL_profiles_111 : decode cL_profiles 111 = .ok (.ifCond .ne 7, 3) := by decide +kernel
theorem dL_profiles_114 : decode cL_profiles 114 = .ok (.iconst 5, 1) := by decide +kernel
theorem dL_profiles_115 : decode cL_profiles 115 = .ok (.goto 10, 3) := by decide +kernel
theorem dL_profiles_118 : decode cL_profiles 118 = .ok (.iload_n 2, 1) := by decide +kernel
theorem dL_profiles_119 : decode cL_profiles 119 = .ok (.iconst 5, 1) := by decide +kernel
theorem dL_profiles_120 : decode cL_profiles 120 = .ok (.ishr, 1) := by decide +kernel
theorem dL_profiles_121 : decode cL_profiles 121 = .ok (.iconst 5, 1) := by decide +kernel
theorem dL_profiles_122 : decode cL_profiles 122 = .ok (.invokestatic 91, 3) := by decide +kernel
theorem dL_profiles_125 : decode cL_profiles 125 = .ok (.istore 11, 2) := by decide +kernel
theorem dL_profiles_127 : decode cL_profiles 127 = .ok (.iload_n 2, 1) := by decide +kernel
theorem dL_profiles_128 : decode cL_profiles 128 = .ok (.iconst 4, 1) := by decide +kernel
theorem dL_profiles_129 : decode cL_profiles 129 = .ok (.ishr, 1) := by decide +kernel
theorem dL_profiles_130 : decode cL_profiles 130 = .ok (.invokestatic 98, 3) := by decide +kernel
theorem dL_profiles_133 : decode cL_profiles 133 = .ok (.istore 12, 2) := by decide +kernel
theorem dL_profiles_135 : decode cL_profiles 135 = .ok (.iload 9, 2) := by decide +kernel
theorem dL_profiles_137 : decode cL_profiles 137 = .ok (.ifCond .eq 19, 3) := by decide +kernel
theorem dL_profiles_140 : decode cL_profiles 140 = .ok (.iload 8, 2) := by decide +kernel
theorem dL_profiles_142 : decode cL_profiles 142 = .ok (.iconst 3, 1) := by decide +kernel
theorem dL_profiles_143 : decode cL_profiles 143 = .ok (.if_icmp .ge 13, 3) := by decide +kernel
theorem dL_profiles_146 : decode cL_profiles 146 = .ok (.iload 11, 2) := by decide +kernel
theorem dL_profiles_148 : decode cL_profiles 148 = .ok (.iconst 5, 1) := by decide +kernel
theorem dL_profiles_149 : decode cL_profiles 149 = .ok (.if_icmp .ge 7, 3) := by decide +kernel
theorem dL_profiles_152 : decode cL_profiles 152 = .ok (.iconst 1, 1) := by decide +kernel
theorem dL_profiles_153 : decode cL_profiles 153 = .ok (.goto 4, 3) := by decide +kernel
theorem dL_profiles_156 : decode cL_profiles 156 = .ok (.iconst 0, 1) := by decide +kernel
theorem dL_profiles_157 : decode cL_profiles 157 = .ok (.istore 9, 2) := by decide +kernel
theorem dL_profiles_159 : decode cL_profiles 159 = .ok (.iload 9, 2) := by decide +kernel
theorem dL_profiles_161 : decode cL_profiles 161 = .ok (.ifCond .ne 8, 3) := by decide +kernel
theorem dL_profiles_164 : decode cL_profiles 164 = .ok (.bipush (-101), 2) := by decide +kernel
theorem dL_profiles_166 : decode cL_profiles 166 = .ok (.goto 47, 3) := by decide +kernel
theorem dL_profiles_169 : decode cL_profiles 169 = .ok (.iload 12, 2) := by decide +kernel
theorem dL_profiles_171 : decode cL_profiles 171 = .ok (.ifCond .lt 11, 3) := by decide +kernel
theorem dL_profiles_174 : decode cL_profiles 174 = .ok (.iload 12, 2) := by decide +kernel
theorem dL_profiles_176 : decode cL_profiles 176 = .ok (.sipush 255, 3) := by decide +kernel
theorem dL_profiles_179 : decode cL_profiles 179 = .ok (.if_icmp .le 8, 3) := by decide +kernel
theorem dL_profiles_182 : decode cL_profiles 182 = .ok (.bipush (-102), 2) := by decide +kernel
theorem dL_profiles_184 : decode cL_profiles 184 = .ok (.goto 29, 3) := by decide +kernel
theorem dL_profiles_187 : decode cL_profiles 187 = .ok (.iload 10, 2) := by decide +kernel
theorem dL_profiles_189 : decode cL_profiles 189 = .ok (.ifCond .ne 8, 3) := by decide +kernel
theorem dL_profiles_192 : decode cL_profiles 192 = .ok (.bipush (-103), 2) := by decide +kernel
theorem dL_profiles_194 : decode cL_profiles 194 = .ok (.goto 19, 3) := by decide +kernel
theorem dL_profiles_197 : decode cL_profiles 197 = .ok (.aload 4, 2) := by decide +kernel
theorem dL_profiles_199 : decode cL_profiles 199 = .ok (.bipush 15, 2) := by decide +kernel
theorem dL_profiles_201 : decode cL_profiles 201 = .ok (.iload 7, 2) := by decide +kernel
theorem dL_profiles_203 : decode cL_profiles 203 = .ok (.imul, 1) := by decide +kernel
theorem dL_profiles_204 : decode cL_profiles 204 = .ok (.iconst 5, 1) := by decide +kernel
theorem dL_profiles_205 : decode cL_profiles 205 = .ok (.iload 8, 2) := by decide +kernel
theorem dL_profiles_207 : decode cL_profiles 207 = .ok (.imul, 1) := by decide +kernel
theorem dL_profiles_208 : decode cL_profiles 208 = .ok (.iadd, 1) := by decide +kernel
theorem dL_profiles_209 : decode cL_profiles 209 = .ok (.iload 11, 2) := by decide +kernel
theorem dL_profiles_211 : decode cL_profiles 211 = .ok (.iadd, 1) := by decide +kernel
theorem dL_profiles_212 : decode cL_profiles 212 = .ok (.iaload, 1) := by decide +kernel
theorem dL_profiles_213 : decode cL_profiles 213 = .ok (.istore 13, 2) := by decide +kernel
theorem dL_profiles_215 : decode cL_profiles 215 = .ok (.iload 13, 2) := by decide +kernel
theorem dL_profiles_217 : decode cL_profiles 217 = .ok (.ifCond .lt 21, 3) := by decide +kernel
theorem dL_profiles_220 : decode cL_profiles 220 = .ok (.aload 4, 2) := by decide +kernel
theorem dL_profiles_222 : decode cL_profiles 222 = .ok (.bipush 15, 2) := by decide +kernel
theorem dL_profiles_224 : decode cL_profiles 224 = .ok (.iload 7, 2) := by decide +kernel
theorem dL_profiles_226 : decode cL_profiles 226 = .ok (.imul, 1) := by decide +kernel
theorem dL_profiles_227 : decode cL_profiles 227 = .ok (.iconst 5, 1) := by decide +kernel
theorem dL_profiles_228 : decode cL_profiles 228 = .ok (.iload 8, 2) := by decide +kernel
theorem dL_profiles_230 : decode cL_profiles 230 = .ok (.imul, 1) := by decide +kernel
theorem dL_profiles_231 : decode cL_profiles 231 = .ok (.iadd, 1) := by decide +kernel
theorem dL_profiles_232 : decode cL_profiles 232 = .ok (.iload 11, 2) := by decide +kernel
theorem dL_profiles_234 : decode cL_profiles 234 = .ok (.iadd, 1) := by decide +kernel
theorem dL_profiles_235 : decode cL_profiles 235 = .ok (.iload 12, 2) := by decide +kernel
theorem dL_profiles_237 : decode cL_profiles 237 = .ok (.iastore, 1) := by decide +kernel
theorem dL_profiles_238 : decode cL_profiles 238 = .ok (.aload_n 0, 1) := by decide +kernel
theorem dL_profiles_239 : decode cL_profiles 239 = .ok (.iload 7, 2) := by decide +kernel
theorem dL_profiles_241 : decode cL_profiles 241 = .ok (.iload 8, 2) := by decide +kernel
theorem dL_profiles_243 : decode cL_profiles 243 = .ok (.iload 11, 2) := by decide +kernel
theorem dL_profiles_245 : decode cL_profiles 245 = .ok (.iload 12, 2) := by decide +kernel
theorem dL_profiles_247 : decode cL_profiles 247 = .ok (.invokestatic 101, 3) := by decide +kernel
theorem dL_profiles_250 : decode cL_profiles 250 = .ok (.iload 13, 2) := by decide +kernel
theorem dL_profiles_252 : decode cL_profiles 252 = .ok (.if_icmp .ne 7, 3) := by decide +kernel
theorem dL_profiles_255 : decode cL_profiles 255 = .ok (.iconst 1, 1) := by decide +kernel
theorem dL_profiles_256 : decode cL_profiles 256 = .ok (.goto 4, 3) := by decide +kernel
theorem dL_profiles_259 : decode cL_profiles 259 = .ok (.iconst 0, 1) := by decide +kernel
theorem dL_profiles_260 : decode cL_profiles 260 = .ok (.ireturn, 1) := by decide +kernel
theorem dL_profiles_261 : decode cL_profiles 261 = .ok (.iload_n 1, 1) := by decide +kernel
theorem dL_profiles_262 : decode cL_profiles 262 = .ok (.iconst 1, 1) := by decide +kernel
theorem dL_profiles_263 : decode cL_profiles 263 = .ok (.if_icmp .ne 225, 3) := by decide +kernel
theorem dL_profiles_266 : decode cL_profiles 266 = .ok (.iload_n 2, 1) := by decide +kernel
theorem dL_profiles_267 : decode cL_profiles 267 = .ok (.iconst 4, 1) := by decide +kernel
theorem dL_profiles_268 : decode cL_profiles 268 = .ok (.ishr, 1) := by decide +kernel
theorem dL_profiles_269 : decode cL_profiles 269 = .ok (.iconst 2, 1) := by decide +kernel
theorem dL_profiles_270 : decode cL_profiles 270 = .ok (.invokestatic 91, 3) := by decide +kernel
theorem dL_profiles_273 : decode cL_profiles 273 = .ok (.ifCond .ne 7, 3) := by decide +kernel
theorem dL_profiles_276 : decode cL_profiles 276 = .ok (.iconst 0, 1) := by decide +kernel
theorem dL_profiles_277 : decode cL_profiles 277 = .ok (.goto 12, 3) := by decide +kernel
theorem dL_profiles_280 : decode cL_profiles 280 = .ok (.iload_n 2, 1) := by decide +kernel
theorem dL_profiles_281 : decode cL_profiles 281 = .ok (.iconst 5, 1) := by decide +kernel
theorem dL_profiles_282 : decode cL_profiles 282 = .ok (.ishr, 1) := by decide +kernel
theorem dL_profiles_283 : decode cL_profiles 283 = .ok (.sipush 256, 3) := by decide +kernel
theorem dL_profiles_286 : decode cL_profiles 286 = .ok (.invokestatic 91, 3) := by decide +kernel
theorem dL_profiles_289 : decode cL_profiles 289 = .ok (.istore 11, 2) := by decide +kernel
theorem dL_profiles_291 : decode cL_profiles 291 = .ok (.iload_n 2, 1) := by decide +kernel
theorem dL_profiles_292 : decode cL_profiles 292 = .ok (.bipush 6, 2) := by decide +kernel
theorem dL_profiles_294 : decode cL_profiles 294 = .ok (.ishr, 1) := by decide +kernel
theorem dL_profiles_295 : decode cL_profiles 295 = .ok (.bipush 30, 2) := by decide +kernel
theorem dL_profiles_297 : decode cL_profiles 297 = .ok (.invokestatic 91, 3) := by decide +kernel
theorem dL_profiles_300 : decode cL_profiles 300 = .ok (.ifCond .ne 10, 3) := by decide +kernel
theorem dL_profiles_303 : decode cL_profiles 303 = .ok (.iload 11, 2) := by decide +kernel
theorem dL_profiles_305 : decode cL_profiles 305 = .ok (.iconst 1, 1) := by decide +kernel
theorem dL_profiles_306 : decode cL_profiles 306 = .ok (.isub, 1) := by decide +kernel
theorem dL_profiles_307 : decode cL_profiles 307 = .ok (.goto 38, 3) := by decide +kernel
theorem dL_profiles_310 : decode cL_profiles 310 = .ok (.iload_n 2, 1) := by decide +kernel
theorem dL_profiles_311 : decode cL_profiles 311 = .ok (.bipush 6, 2) := by decide +kernel
theorem dL_profiles_313 : decode cL_profiles 313 = .ok (.ishr, 1) := by decide +kernel
theorem dL_profiles_314 : decode cL_profiles 314 = .ok (.bipush 30, 2) := by decide +kernel
theorem dL_profiles_316 : decode cL_profiles 316 = .ok (.invokestatic 91, 3) := by decide +kernel
theorem dL_profiles_319 : decode cL_profiles 319 = .ok (.iconst 1, 1) := by decide +kernel
theorem dL_profiles_320 : decode cL_profiles 320 = .ok (.if_icmp .ne 9, 3) := by decide +kernel
theorem dL_profiles_323 : decode cL_profiles 323 = .ok (.sipush 256, 3) := by decide +kernel
theorem dL_profiles_326 : decode cL_profiles 326 = .ok (.goto 19, 3) := by decide +kernel
theorem dL_profiles_329 : decode cL_profiles 329 = .ok (.iload 11, 2) := by decide +kernel
