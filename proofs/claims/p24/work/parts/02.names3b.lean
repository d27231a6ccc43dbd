theorem dX0_through_2 : decode cX0_through 2 = .ok (.invokevirtual 99, 3) := by decide +kernel
theorem dX0_through_5 : decode cX0_through 5 = .ok (.iload_n 2, 1) := by decide +kernel
theorem dX0_through_6 : decode cX0_through 6 = .ok (.invokestatic 66, 3) := by decide +kernel
theorem dX0_through_9 : decode cX0_through 9 = .ok (.iload_n 3, 1) := by decide +kernel
theorem dX0_through_10 : decode cX0_through 10 = .ok (.invokestatic 74, 3) := by decide +kernel
theorem dX0_through_13 : decode cX0_through 13 = .ok (.aload_n 0, 1) := by decide +kernel
theorem dX0_through_14 : decode cX0_through 14 = .ok (.iload_n 1, 1) := by decide +kernel
theorem dX0_through_15 : decode cX0_through 15 = .ok (.iload_n 2, 1) := by decide +kernel
theorem dX0_through_16 : decode cX0_through 16 = .ok (.iload_n 3, 1) := by decide +kernel
theorem dX0_through_17 : decode cX0_through 17 = .ok (.invokevirtual 113, 3) := by decide +kernel
theorem dX0_through_20 : decode cX0_through 20 = .ok (.ireturn, 1) := by decide +kernel
set_option maxRecDepth 20000 in
theorem ggX0_gap_X0_needChain : GoodIn wsX0_gap wsX0_needChain := goodIn_ca (goodIn_r _ [5, 6, 7, 8, 61, 62, 63, 64, 65, 66, 67, 68, 69, 70, 71, 72, 73, 74, 75] (by decide +kernel) (by decide +kernel)) (goodIn_sub (fun _ h => List.mem_cons_of_mem _ (List.mem_append_right _ h)) (by decide +kernel))
set_option maxRecDepth 20000 in
theorem gX0_gap_X0_needChain : GoodIn wsX0_gap (wsV RX0 99 RX0 yX0_needChain wsX0_needChain) := goodIn_app (goodIn_of _ (by decide +kernel)) ggX0_gap_X0_needChain
set_option maxRecDepth 20000 in
theorem ggX0_gap_X0_tryJoining : GoodIn wsX0_gap wsX0_tryJoining := goodIn_r _ [12, 13, 14, 15, 16, 17, 18, 19, 20, 21, 22, 4, 23, 24, 25, 26, 27, 28, 29, 30, 31, 32, 33, 34, 35, 36, 37, 38, 39, 40, 41, 42, 43, 44, 45, 46, 47, 48, 49, 50, 51, 52, 53, 54, 55, 56, 57, 58, 59, 60, 61, 62, 63, 64, 65, 66, 67, 68, 69, 70, 71, 72, 73, 74, 75] (by decide +kernel) (by decide +kernel)
set_option maxRecDepth 20000 in
theorem gX0_gap_X0_tryJoining : GoodIn wsX0_gap (wsV RX0 116 RX0 yX0_tryJoining wsX0_tryJoining) := goodIn_app (goodIn_of _ (by decide +kernel)) ggX0_gap_X0_tryJoining
theorem dX0_gap_0 : decode cX0_gap 0 = .ok (.aload_n 0, 1) := by decide +kernel
theorem dX0_gap_1 : decode cX0_gap 1 = .ok (.iload_n 1, 1) := by decide +kernel
theorem dX0_gap_2 : decode cX0_gap 2 = .ok (.invokevirtual 99, 3) := by decide +kernel
theorem dX0_gap_5 : decode cX0_gap 5 = .ok (.aload_n 0, 1) := by decide +kernel
theorem dX0_gap_6 : decode cX0_gap 6 = .ok (.iload_n 1, 1) := by decide +kernel
theorem dX0_gap_7 : decode cX0_gap 7 = .ok (.invokevirtual 116, 3) := by decide +kernel
theorem dX0_gap_10 : decode cX0_gap 10 = .ok (.ireturn, 1) := by decide +kernel
set_option maxRecDepth 20000 in
theorem ggX0_greyGap_X0_needChain : GoodIn wsX0_greyGap wsX0_needChain := goodIn_ca (goodIn_r _ [12, 13, 14, 15, 47, 48, 49, 50, 51, 52, 53, 54, 55, 56, 57, 58, 59, 60, 61] (by decide +kernel) (by decide +kernel)) (goodIn_sub (fun _ h => List.mem_cons_of_mem _ (List.mem_append_right _ h)) (by decide +kernel))
set_option maxRecDepth 20000 in
theorem gX0_greyGap_X0_needChain : GoodIn wsX0_greyGap (wsV RX0 99 RX0 yX0_needChain wsX0_needChain) := goodIn_app (goodIn_of _ (by decide +kernel)) ggX0_greyGap_X0_needChain
set_option maxRecDepth 20000 in
theorem ggX0_greyGap_X0_pass : GoodIn wsX0_greyGap wsX0_pass := goodIn_r _ [19, 20, 21, 22, 23, 11, 24, 25, 26, 27, 28, 29, 30, 31, 1, 2, 3, 4, 5, 6, 7, 32, 33, 34, 35, 36, 37, 38, 39, 40, 41, 42, 43, 44, 45, 46, 47, 48, 49, 50, 51, 52, 53, 54, 55, 56, 57, 58, 59, 60, 61] (by decide +kernel) (by decide +kernel)
set_option maxRecDepth 20000 in
theorem gX0_greyGap_X0_pass : GoodIn wsX0_greyGap (wsV RX0 113 RX0 yX0_pass wsX0_pass) := goodIn_app (goodIn_of _ (by decide +kernel)) ggX0_greyGap_X0_pass
theorem dX0_greyGap_0 : decode cX0_greyGap 0 = .ok (.aload_n 0, 1) := by decide +kernel
theorem dX0_greyGap_1 : decode cX0_greyGap 1 = .ok (.iload_n 1, 1) := by decide +kernel
theorem dX0_greyGap_2 : decode cX0_greyGap 2 = .ok (.invokevirtual 99, 3) := by decide +kernel
theorem dX0_greyGap_5 : decode cX0_greyGap 5 = .ok (.iconst 0, 1) := by decide +kernel
theorem dX0_greyGap_6 : decode cX0_greyGap 6 = .ok (.istore_n 2, 1) := by decide +kernel
theorem dX0_greyGap_7 : decode cX0_greyGap 7 = .ok (.iconst 0, 1) := by decide +kernel
theorem dX0_greyGap_8 : decode cX0_greyGap 8 = .ok (.istore_n 3, 1) := by decide +kernel
theorem dX0_greyGap_9 : decode cX0_greyGap 9 = .ok (.iload_n 3, 1) := by decide +kernel
theorem dX0_greyGap_10 : decode cX0_greyGap 10 = .ok (.sipush 255, 3) := by decide +kernel
theorem dX0_greyGap_13 : decode cX0_greyGap 13 = .ok (.if_icmp .gt 70, 3) := by decide +kernel
theorem dX0_greyGap_16 : decode cX0_greyGap 16 = .ok (.sipush 255, 3) := by decide +kernel
theorem dX0_greyGap_19 : decode cX0_greyGap 19 = .ok (.istore 4, 2) := by decide +kernel
theorem dX0_greyGap_21 : decode cX0_greyGap 21 = .ok (.iconst 0, 1) := by decide +kernel
theorem dX0_greyGap_22 : decode cX0_greyGap 22 = .ok (.istore 5, 2) := by decide +kernel
theorem dX0_greyGap_24 : decode cX0_greyGap 24 = .ok (.iconst 0, 1) := by decide +kernel
theorem dX0_greyGap_25 : decode cX0_greyGap 25 = .ok (.istore 6, 2) := by decide +kernel
theorem dX0_greyGap_27 : decode cX0_greyGap 27 = .ok (.iload 6, 2) := by decide +kernel
theorem dX0_greyGap_29 : decode cX0_greyGap 29 = .ok (.iconst 3, 1) := by decide +kernel
theorem dX0_greyGap_30 : decode cX0_greyGap 30 = .ok (.if_icmp .ge 37, 3) := by decide +kernel
theorem dX0_greyGap_33 : decode cX0_greyGap 33 = .ok (.aload_n 0, 1) := by decide +kernel
theorem dX0_greyGap_34 : decode cX0_greyGap 34 = .ok (.iload_n 1, 1) := by decide +kernel
theorem dX0_greyGap_35 : decode cX0_greyGap 35 = .ok (.iload 6, 2) := by decide +kernel
theorem dX0_greyGap_37 : decode cX0_greyGap 37 = .ok (.iload_n 3, 1) := by decide +kernel
theorem dX0_greyGap_38 : decode cX0_greyGap 38 = .ok (.invokevirtual 113, 3) := by decide +kernel
theorem dX0_greyGap_41 : decode cX0_greyGap 41 = .ok (.istore 7, 2) := by decide +kernel
theorem dX0_greyGap_43 : decode cX0_greyGap 43 = .ok (.iload 4, 2) := by decide +kernel
theorem dX0_greyGap_45 : decode cX0_greyGap 45 = .ok (.iload 7, 2) := by decide +kernel
theorem dX0_greyGap_47 : decode cX0_greyGap 47 = .ok (.invokestatic 119, 3) := by decide +kernel
theorem dX0_greyGap_50 : decode cX0_greyGap 50 = .ok (.istore 4, 2) := by decide +kernel
theorem dX0_greyGap_52 : decode cX0_greyGap 52 = .ok (.iload 5, 2) := by decide +kernel
theorem dX0_greyGap_54 : decode cX0_greyGap 54 = .ok (.iload 7, 2) := by decide +kernel
theorem dX0_greyGap_56 : decode cX0_greyGap 56 = .ok (.invokestatic 125, 3) := by decide +kernel
theorem dX0_greyGap_59 : decode cX0_greyGap 59 = .ok (.istore 5, 2) := by decide +kernel
theorem dX0_greyGap_61 : decode cX0_greyGap 61 = .ok (.iinc 6 1, 3) := by decide +kernel
theorem dX0_greyGap_64 : decode cX0_greyGap 64 = .ok (.goto (-37), 3) := by decide +kernel
theorem dX0_greyGap_67 : decode cX0_greyGap 67 = .ok (.iload_n 2, 1) := by decide +kernel
theorem dX0_greyGap_68 : decode cX0_greyGap 68 = .ok (.iload 5, 2) := by decide +kernel
theorem dX0_greyGap_70 : decode cX0_greyGap 70 = .ok (.iload 4, 2) := by decide +kernel
theorem dX0_greyGap_72 : decode cX0_greyGap 72 = .ok (.isub, 1) := by decide +kernel
theorem dX0_greyGap_73 : decode cX0_greyGap 73 = .ok (.invokestatic 125, 3) := by decide +kernel
theorem dX0_greyGap_76 : decode cX0_greyGap 76 = .ok (.istore_n 2, 1) := by decide +kernel
theorem dX0_greyGap_77 : decode cX0_greyGap 77 = .ok (.iinc 3 1, 3) := by decide +kernel
theorem dX0_greyGap_80 : decode cX0_greyGap 80 = .ok (.goto (-71), 3) := by decide +kernel
theorem dX0_greyGap_83 : decode cX0_greyGap 83 = .ok (.iload_n 2, 1) := by decide +kernel
theorem dX0_greyGap_84 : decode cX0_greyGap 84 = .ok (.ireturn, 1) := by decide +kernel
set_option maxRecDepth 20000 in
theorem ggX0_join_X0_needChain : GoodIn wsX0_join wsX0_needChain := goodIn_ca (goodIn_r _ [10, 11, 12, 13, 70, 71, 72, 73, 74, 75, 76, 77, 78, 79, 80, 81, 82, 83, 84] (by decide +kernel) (by decide +kernel)) (goodIn_sub (fun _ h => List.mem_cons_of_mem _ (List.mem_append_left _ (List.mem_append_right _ h))) (by decide +kernel))
set_option maxRecDepth 20000 in
theorem gX0_join_X0_needChain : GoodIn wsX0_join (wsV RX0 99 RX0 yX0_needChain wsX0_needChain) := goodIn_app (goodIn_of _ (by decide +kernel)) ggX0_join_X0_needChain
set_option maxRecDepth 20000 in
theorem ggX0_join_X0_needValue : GoodIn wsX0_join wsX0_needValue := goodIn_ca (goodIn_r _ [16, 17, 18] (by decide +kernel) (by decide +kernel)) (goodIn_sub (fun _ h => List.mem_cons_of_mem _ (List.mem_append_right _ h)) (by decide +kernel))
set_option maxRecDepth 20000 in
theorem gX0_join_X0_needValue : GoodIn wsX0_join (va_wsS RX0 74 yX0_needValue wsX0_needValue) := goodIn_app (goodIn_of _ (by decide +kernel)) ggX0_join_X0_needValue
set_option maxRecDepth 20000 in
theorem ggX0_join_X0_tryJoining : GoodIn wsX0_join wsX0_tryJoining := goodIn_r _ [22, 4, 23, 24, 25, 26, 27, 28, 29, 30, 31, 9, 32, 33, 34, 35, 36, 37, 38, 39, 40, 41, 42, 43, 44, 45, 46, 47, 48, 49, 50, 51, 52, 53, 54, 55, 56, 57, 58, 59, 60, 61, 62, 63, 64, 65, 66, 67, 68, 69, 70, 71, 72, 73, 74, 75, 76, 77, 78, 79, 80, 81, 82, 83, 84] (by decide +kernel) (by decide +kernel)
set_option maxRecDepth 20000 in
theorem gX0_join_X0_tryJoining : GoodIn wsX0_join (wsV RX0 116 RX0 yX0_tryJoining wsX0_tryJoining) := goodIn_app (goodIn_of _ (by decide +kernel)) ggX0_join_X0_tryJoining
set_option maxRecDepth 20000 in
theorem ggX0_join_X0_read : GoodIn wsX0_join wsX0_read := goodIn_r _ [44] (by decide +kernel) (by decide +kernel)
set_option maxRecDepth 20000 in
theorem gX0_join_X0_read : GoodIn wsX0_join (va_wsS RX0 105 yX0_read wsX0_read) := goodIn_app (goodIn_of _ (by decide +kernel)) ggX0_join_X0_read
set_option maxRecDepth 20000 in
theorem ggX0_join_X0_swap : GoodIn wsX0_join wsX0_swap := goodIn_r _ [69] (by decide +kernel) (by decide +kernel)
set_option maxRecDepth 20000 in
theorem gX0_join_X0_swap : GoodIn wsX0_join (va_wsS RX0 58 yX0_swap wsX0_swap) := goodIn_app (goodIn_of _ (by decide +kernel)) ggX0_join_X0_swap
theorem dX0_join_0 : decode cX0_join 0 = .ok (.aload_n 0, 1) := by decide +kernel
theorem dX0_join_1 : decode cX0_join 1 = .ok (.iload_n 1, 1) := by decide +kernel
theorem dX0_join_2 : decode cX0_join 2 = .ok (.invokevirtual 99, 3) := by decide +kernel
theorem dX0_join_5 : decode cX0_join 5 = .ok (.iload_n 2, 1) := by decide +kernel
theorem dX0_join_6 : decode cX0_join 6 = .ok (.invokestatic 74, 3) := by decide +kernel
theorem dX0_join_9 : decode cX0_join 9 = .ok (.aload_n 0, 1) := by decide +kernel
theorem dX0_join_10 : decode cX0_join 10 = .ok (.iload_n 1, 1) := by decide +kernel
theorem dX0_join_11 : decode cX0_join 11 = .ok (.invokevirtual 116, 3) := by decide +kernel
theorem dX0_join_14 : decode cX0_join 14 = .ok (.istore_n 3, 1) := by decide +kernel
theorem dX0_join_15 : decode cX0_join 15 = .ok (.iload_n 3, 1) := by decide +kernel
theorem dX0_join_16 : decode cX0_join 16 = .ok (.iload_n 2, 1) := by decide +kernel
theorem dX0_join_17 : decode cX0_join 17 = .ok (.if_icmp .le 13, 3) := by decide +kernel
theorem dX0_join_20 : decode cX0_join 20 = .ok (.new 47, 3) := by decide +kernel
theorem dX0_join_23 : decode cX0_join 23 = .ok (.dup, 1) := by decide +kernel
theorem dX0_join_24 : decode cX0_join 24 = .ok (.ldc 128, 2) := by decide +kernel
theorem dX0_join_26 : decode cX0_join 26 = .ok (.invokespecial 51, 3) := by decide +kernel
theorem dX0_join_29 : decode cX0_join 29 = .ok (.athrow, 1) := by decide +kernel
theorem dX0_join_30 : decode cX0_join 30 = .ok (.iconst 0, 1) := by decide +kernel
theorem dX0_join_31 : decode cX0_join 31 = .ok (.istore 4, 2) := by decide +kernel
theorem dX0_join_33 : decode cX0_join 33 = .ok (.iload 4, 2) := by decide +kernel
theorem dX0_join_35 : decode cX0_join 35 = .ok (.bipush 15, 2) := by decide +kernel
theorem dX0_join_37 : decode cX0_join 37 = .ok (.if_icmp .ge 34, 3) := by decide +kernel
theorem dX0_join_40 : decode cX0_join 40 = .ok (.aload_n 0, 1) := by decide +kernel
theorem dX0_join_41 : decode cX0_join 41 = .ok (.getfield 28, 3) := by decide +kernel
theorem dX0_join_44 : decode cX0_join 44 = .ok (.iload_n 1, 1) := by decide +kernel
theorem dX0_join_45 : decode cX0_join 45 = .ok (.iconst 3, 1) := by decide +kernel
theorem dX0_join_46 : decode cX0_join 46 = .ok (.imul, 1) := by decide +kernel
theorem dX0_join_47 : decode cX0_join 47 = .ok (.iconst 5, 1) := by decide +kernel
theorem dX0_join_48 : decode cX0_join 48 = .ok (.imul, 1) := by decide +kernel
theorem dX0_join_49 : decode cX0_join 49 = .ok (.iload 4, 2) := by decide +kernel
theorem dX0_join_51 : decode cX0_join 51 = .ok (.iadd, 1) := by decide +kernel
theorem dX0_join_52 : decode cX0_join 52 = .ok (.aload_n 0, 1) := by decide +kernel
theorem dX0_join_53 : decode cX0_join 53 = .ok (.getfield 31, 3) := by decide +kernel
theorem dX0_join_56 : decode cX0_join 56 = .ok (.iload 4, 2) := by decide +kernel
theorem dX0_join_58 : decode cX0_join 58 = .ok (.invokestatic 105, 3) := by decide +kernel
theorem dX0_join_61 : decode cX0_join 61 = .ok (.invokestatic 58, 3) := by decide +kernel
theorem dX0_join_64 : decode cX0_join 64 = .ok (.pop, 1) := by decide +kernel
theorem dX0_join_65 : decode cX0_join 65 = .ok (.iinc 4 1, 3) := by decide +kernel
theorem dX0_join_68 : decode cX0_join 68 = .ok (.goto (-35), 3) := by decide +kernel
theorem dX0_join_71 : decode cX0_join 71 = .ok (.aload_n 0, 1) := by decide +kernel
theorem dX0_join_72 : decode cX0_join 72 = .ok (.aload_n 0, 1) := by decide +kernel
theorem dX0_join_73 : decode cX0_join 73 = .ok (.getfield 130, 3) := by decide +kernel
theorem dX0_join_76 : decode cX0_join 76 = .ok (.iconst 1, 1) := by decide +kernel
theorem dX0_join_77 : decode cX0_join 77 = .ok (.iload_n 1, 1) := by decide +kernel
theorem dX0_join_78 : decode cX0_join 78 = .ok (.ishl, 1) := by decide +kernel
theorem dX0_join_79 : decode cX0_join 79 = .ok (.ior, 1) := by decide +kernel
theorem dX0_join_80 : decode cX0_join 80 = .ok (.putfield 130, 3) := by decide +kernel
theorem dX0_join_83 : decode cX0_join 83 = .ok (.iload_n 3, 1) := by decide +kernel
theorem dX0_join_84 : decode cX0_join 84 = .ok (.ireturn, 1) := by decide +kernel
set_option maxRecDepth 20000 in
theorem ggX0_joined_X0_needChain : GoodIn wsX0_joined wsX0_needChain := goodIn_ca (goodIn_r _ [9, 10, 11, 12, 34, 35, 36, 37, 38, 39, 40, 41, 42, 43, 44, 45, 46, 47, 48] (by decide +kernel) (by decide +kernel)) (goodIn_sub (fun _ h => List.mem_cons_of_mem _ (List.mem_append_left _ (List.mem_append_right _ h))) (by decide +kernel))
set_option maxRecDepth 20000 in
theorem gX0_joined_X0_needChain : GoodIn wsX0_joined (wsV RX0 99 RX0 yX0_needChain wsX0_needChain) := goodIn_app (goodIn_of _ (by decide +kernel)) ggX0_joined_X0_needChain
set_option maxRecDepth 20000 in
theorem ggX0_joined_X0_needBand : GoodIn wsX0_joined wsX0_needBand := goodIn_ca (goodIn_r _ [15, 10, 11] (by decide +kernel) (by decide +kernel)) (goodIn_sub (fun _ h => List.mem_cons_of_mem _ (List.mem_append_left _ (List.mem_append_right _ h))) (by decide +kernel))
set_option maxRecDepth 20000 in
theorem gX0_joined_X0_needBand : GoodIn wsX0_joined (va_wsS RX0 66 yX0_needBand wsX0_needBand) := goodIn_app (goodIn_of _ (by decide +kernel)) ggX0_joined_X0_needBand
set_option maxRecDepth 20000 in
theorem ggX0_joined_X0_needValue : GoodIn wsX0_joined wsX0_needValue := goodIn_ca (goodIn_r _ [18, 19, 20] (by decide +kernel) (by decide +kernel)) (goodIn_sub (fun _ h => List.mem_cons_of_mem _ (List.mem_append_right _ h)) (by decide +kernel))
set_option maxRecDepth 20000 in
theorem gX0_joined_X0_needValue : GoodIn wsX0_joined (va_wsS RX0 74 yX0_needValue wsX0_needValue) := goodIn_app (goodIn_of _ (by decide +kernel)) ggX0_joined_X0_needValue
set_option maxRecDepth 20000 in
theorem ggX0_joined_X0_hasBit : GoodIn wsX0_joined wsX0_hasBit := goodIn_r _ [23] (by decide +kernel) (by decide +kernel)
set_option maxRecDepth 20000 in
theorem gX0_joined_X0_hasBit : GoodIn wsX0_joined (va_wsS RX0 133 yX0_hasBit wsX0_hasBit) := goodIn_app (goodIn_of _ (by decide +kernel)) ggX0_joined_X0_hasBit
set_option maxRecDepth 20000 in
theorem ggX0_joined_X0_between : GoodIn wsX0_joined wsX0_between := goodIn_r _ [26, 27, 28, 8, 29, 30, 31, 32, 33] (by decide +kernel) (by decide +kernel)
set_option maxRecDepth 20000 in
theorem gX0_joined_X0_between : GoodIn wsX0_joined (va_wsS RX0 139 yX0_between wsX0_between) := goodIn_app (goodIn_of _ (by decide +kernel)) ggX0_joined_X0_between
theorem dX0_joined_0 : decode cX0_joined 0 = .ok (.aload_n 0, 1) := by decide +kernel
theorem dX0_joined_1 : decode cX0_joined 1 = .ok (.iload_n 1, 1) := by decide +kernel
theorem dX0_joined_2 : decode cX0_joined 2 = .ok (.invokevirtual 99, 3) := by decide +kernel
theorem dX0_joined_5 : decode cX0_joined 5 = .ok (.iload_n 2, 1) := by decide +kernel
theorem dX0_joined_6 : decode cX0_joined 6 = .ok (.invokestatic 66, 3) := by decide +kernel
theorem dX0_joined_9 : decode cX0_joined 9 = .ok (.iload_n 3, 1) := by decide +kernel
theorem dX0_joined_10 : decode cX0_joined 10 = .ok (.invokestatic 74, 3) := by decide +kernel
theorem dX0_joined_13 : decode cX0_joined 13 = .ok (.aload_n 0, 1) := by decide +kernel
theorem dX0_joined_14 : decode cX0_joined 14 = .ok (.getfield 130, 3) := by decide +kernel
theorem dX0_joined_17 : decode cX0_joined 17 = .ok (.iload_n 1, 1) := by decide +kernel
theorem dX0_joined_18 : decode cX0_joined 18 = .ok (.invokestatic 133, 3) := by decide +kernel
theorem dX0_joined_21 : decode cX0_joined 21 = .ok (.ifCond .ne 13, 3) := by decide +kernel
theorem dX0_joined_24 : decode cX0_joined 24 = .ok (.new 47, 3) := by decide +kernel
theorem dX0_joined_27 : decode cX0_joined 27 = .ok (.dup, 1) := by decide +kernel
theorem dX0_joined_28 : decode cX0_joined 28 = .ok (.ldc 137, 2) := by decide +kernel
theorem dX0_joined_30 : decode cX0_joined 30 = .ok (.invokespecial 51, 3) := by decide +kernel
theorem dX0_joined_33 : decode cX0_joined 33 = .ok (.athrow, 1) := by decide +kernel
theorem dX0_joined_34 : decode cX0_joined 34 = .ok (.aload_n 0, 1) := by decide +kernel
theorem dX0_joined_35 : decode cX0_joined 35 = .ok (.getfield 28, 3) := by decide +kernel
theorem dX0_joined_38 : decode cX0_joined 38 = .ok (.iload_n 1, 1) := by decide +kernel
theorem dX0_joined_39 : decode cX0_joined 39 = .ok (.iconst 3, 1) := by decide +kernel
theorem dX0_joined_40 : decode cX0_joined 40 = .ok (.imul, 1) := by decide +kernel
theorem dX0_joined_41 : decode cX0_joined 41 = .ok (.iload_n 2, 1) := by decide +kernel
theorem dX0_joined_42 : decode cX0_joined 42 = .ok (.iadd, 1) := by decide +kernel
theorem dX0_joined_43 : decode cX0_joined 43 = .ok (.iconst 5, 1) := by decide +kernel
theorem dX0_joined_44 : decode cX0_joined 44 = .ok (.imul, 1) := by decide +kernel
theorem dX0_joined_45 : decode cX0_joined 45 = .ok (.iload_n 3, 1) := by decide +kernel
theorem dX0_joined_46 : decode cX0_joined 46 = .ok (.invokestatic 139, 3) := by decide +kernel
theorem dX0_joined_49 : decode cX0_joined 49 = .ok (.ireturn, 1) := by decide +kernel
set_option maxRecDepth 20000 in
theorem ggX0_stale_X0_hasBit : GoodIn wsX0_stale wsX0_hasBit := goodIn_r _ [5] (by decide +kernel) (by decide +kernel)
set_option maxRecDepth 20000 in
theorem gX0_stale_X0_hasBit : GoodIn wsX0_stale (va_wsS RX0 133 yX0_hasBit wsX0_hasBit) := goodIn_app (goodIn_of _ (by decide +kernel)) ggX0_stale_X0_hasBit
set_option maxRecDepth 20000 in
theorem ggX0_stale_X0_differsFromKept : GoodIn wsX0_stale wsX0_differsFromKept := goodIn_r _ [9, 10, 11, 12, 4, 13, 14, 15, 16, 17, 18, 19, 20, 21, 22, 23, 24, 25, 26, 27, 28, 29, 30, 31, 32, 33, 34, 35, 36, 37, 38, 39, 40, 41, 42, 43, 44, 45, 46, 47, 48, 49, 50, 51, 52, 53, 54, 55, 56, 57, 58, 59, 60, 61, 62, 63, 64, 65, 66] (by decide +kernel) (by decide +kernel)
set_option maxRecDepth 20000 in
theorem gX0_stale_X0_differsFromKept : GoodIn wsX0_stale (wsV RX0 142 RX0 yX0_differsFromKept wsX0_differsFromKept) := goodIn_app (goodIn_of _ (by decide +kernel)) ggX0_stale_X0_differsFromKept
theorem dX0_stale_0 : decode cX0_stale 0 = .ok (.iconst 0, 1) := by decide +kernel
theorem dX0_stale_1 : decode cX0_stale 1 = .ok (.istore_n 1, 1) := by decide +kernel
theorem dX0_stale_2 : decode cX0_stale 2 = .ok (.iconst 0, 1) := by decide +kernel
theorem dX0_stale_3 : decode cX0_stale 3 = .ok (.istore_n 2, 1) := by decide +kernel
theorem dX0_stale_4 : decode cX0_stale 4 = .ok (.iload_n 2, 1) := by decide +kernel
theorem dX0_stale_5 : decode cX0_stale 5 = .ok (.bipush 6, 2) := by decide +kernel
theorem dX0_stale_7 : decode cX0_stale 7 = .ok (.if_icmp .ge 34, 3) := by decide +kernel
theorem dX0_stale_10 : decode cX0_stale 10 = .ok (.aload_n 0, 1) := by decide +kernel
theorem dX0_stale_11 : decode cX0_stale 11 = .ok (.getfield 130, 3) := by decide +kernel
theorem dX0_stale_14 : decode cX0_stale 14 = .ok (.iload_n 2, 1) := by decide +kernel
theorem dX0_stale_15 : decode cX0_stale 15 = .ok (.invokestatic 133, 3) := by decide +kernel
theorem dX0_stale_18 : decode cX0_stale 18 = .ok (.ifCond .eq 17, 3) := by decide +kernel
theorem dX0_stale_21 : decode cX0_stale 21 = .ok (.aload_n 0, 1) := by decide +kernel
theorem dX0_stale_22 : decode cX0_stale 22 = .ok (.iload_n 2, 1) := by decide +kernel
theorem dX0_stale_23 : decode cX0_stale 23 = .ok (.invokevirtual 142, 3) := by decide +kernel
theorem dX0_stale_26 : decode cX0_stale 26 = .ok (.ifCond .eq 9, 3) := by decide +kernel
theorem dX0_stale_29 : decode cX0_stale 29 = .ok (.iload_n 1, 1) := by decide +kernel
theorem dX0_stale_30 : decode cX0_stale 30 = .ok (.iconst 1, 1) := by decide +kernel
theorem dX0_stale_31 : decode cX0_stale 31 = .ok (.iload_n 2, 1) := by decide +kernel
theorem dX0_stale_32 : decode cX0_stale 32 = .ok (.ishl, 1) := by decide +kernel
theorem dX0_stale_33 : decode cX0_stale 33 = .ok (.ior, 1) := by decide +kernel
theorem dX0_stale_34 : decode cX0_stale 34 = .ok (.istore_n 1, 1) := by decide +kernel
theorem dX0_stale_35 : decode cX0_stale 35 = .ok (.iinc 2 1, 3) := by decide +kernel
theorem dX0_stale_38 : decode cX0_stale 38 = .ok (.goto (-34), 3) := by decide +kernel
theorem dX0_stale_41 : decode cX0_stale 41 = .ok (.iload_n 1, 1) := by decide +kernel
theorem dX0_stale_42 : decode cX0_stale 42 = .ok (.ireturn, 1) := by decide +kernel
set_option maxRecDepth 20000 in
theorem ggX0_sign_X0_needChain : GoodIn wsX0_sign wsX0_needChain := goodIn_ca (goodIn_r _ [6, 7, 8, 9, 13, 14, 15, 16, 17, 18, 19, 20, 21, 22, 23, 24, 25, 26, 27] (by decide +kernel) (by decide +kernel)) (goodIn_sub (fun _ h => List.mem_cons_of_mem _ (List.mem_append_right _ h)) (by decide +kernel))
set_option maxRecDepth 20000 in
theorem gX0_sign_X0_needChain : GoodIn wsX0_sign (wsV RX0 99 RX0 yX0_needChain wsX0_needChain) := goodIn_app (goodIn_of _ (by decide +kernel)) ggX0_sign_X0_needChain
set_option maxRecDepth 20000 in
theorem ggX0_sign_X0_hasBit : GoodIn wsX0_sign wsX0_hasBit := goodIn_r _ [12] (by decide +kernel) (by decide +kernel)
set_option maxRecDepth 20000 in
theorem gX0_sign_X0_hasBit : GoodIn wsX0_sign (va_wsS RX0 133 yX0_hasBit wsX0_hasBit) := goodIn_app (goodIn_of _ (by decide +kernel)) ggX0_sign_X0_hasBit
theorem dX0_sign_0 : decode cX0_sign 0 = .ok (.aload_n 0, 1) := by decide +kernel
theorem dX0_sign_1 : decode cX0_sign 1 = .ok (.iload_n 1, 1) := by decide +kernel
theorem dX0_sign_2 : decode cX0_sign 2 = .ok (.invokevirtual 99, 3) := by decide +kernel
theorem dX0_sign_5 : decode cX0_sign 5 = .ok (.aload_n 0, 1) := by decide +kernel
theorem dX0_sign_6 : decode cX0_sign 6 = .ok (.aload_n 0, 1) := by decide +kernel
theorem dX0_sign_7 : decode cX0_sign 7 = .ok (.getfield 146, 3) := by decide +kernel
theorem dX0_sign_10 : decode cX0_sign 10 = .ok (.iconst 1, 1) := by decide +kernel
theorem dX0_sign_11 : decode cX0_sign 11 = .ok (.iload_n 1, 1) := by decide +kernel
theorem dX0_sign_12 : decode cX0_sign 12 = .ok (.ishl, 1) := by decide +kernel
theorem dX0_sign_13 : decode cX0_sign 13 = .ok (.ixor, 1) := by decide +kernel
theorem dX0_sign_14 : decode cX0_sign 14 = .ok (.putfield 146, 3) := by decide +kernel
theorem dX0_sign_17 : decode cX0_sign 17 = .ok (.aload_n 0, 1) := by decide +kernel
theorem dX0_sign_18 : decode cX0_sign 18 = .ok (.getfield 146, 3) := by decide +kernel
theorem dX0_sign_21 : decode cX0_sign 21 = .ok (.iload_n 1, 1) := by decide +kernel
theorem dX0_sign_22 : decode cX0_sign 22 = .ok (.invokestatic 133, 3) := by decide +kernel
theorem dX0_sign_25 : decode cX0_sign 25 = .ok (.ireturn, 1) := by decide +kernel
set_option maxRecDepth 20000 in
theorem ggX0_held_X0_hasBit : GoodIn wsX0_held wsX0_hasBit := goodIn_r _ [5] (by decide +kernel) (by decide +kernel)
set_option maxRecDepth 20000 in
theorem gX0_held_X0_hasBit : GoodIn wsX0_held (va_wsS RX0 133 yX0_hasBit wsX0_hasBit) := goodIn_app (goodIn_of _ (by decide +kernel)) ggX0_held_X0_hasBit
set_option maxRecDepth 20000 in
theorem ggX0_held_X0_profilesOf : GoodIn wsX0_held wsX0_profilesOf := goodIn_r _ [9, 10, 11, 12, 13, 4, 14, 15, 16, 17, 18, 19, 20, 21, 22, 23, 24, 25, 26, 27, 28, 29] (by decide +kernel) (by decide +kernel)
set_option maxRecDepth 20000 in
theorem gX0_held_X0_profilesOf : GoodIn wsX0_held (wsV RX0 149 RX0 yX0_profilesOf wsX0_profilesOf) := goodIn_app (goodIn_of _ (by decide +kernel)) ggX0_held_X0_profilesOf
theorem dX0_held_0 : decode cX0_held 0 = .ok (.iconst 0, 1) := by decide +kernel
theorem dX0_held_1 : decode cX0_held 1 = .ok (.istore_n 1, 1) := by decide +kernel
theorem dX0_held_2 : decode cX0_held 2 = .ok (.iconst 0, 1) := by decide +kernel
theorem dX0_held_3 : decode cX0_held 3 = .ok (.istore_n 2, 1) := by decide +kernel
theorem dX0_held_4 : decode cX0_held 4 = .ok (.iload_n 2, 1) := by decide +kernel
theorem dX0_held_5 : decode cX0_held 5 = .ok (.bipush 6, 2) := by decide +kernel
theorem dX0_held_7 : decode cX0_held 7 = .ok (.if_icmp .ge 28, 3) := by decide +kernel
theorem dX0_held_10 : decode cX0_held 10 = .ok (.aload_n 0, 1) := by decide +kernel
theorem dX0_held_11 : decode cX0_held 11 = .ok (.getfield 146, 3) := by decide +kernel
theorem dX0_held_14 : decode cX0_held 14 = .ok (.iload_n 2, 1) := by decide +kernel
theorem dX0_held_15 : decode cX0_held 15 = .ok (.invokestatic 133, 3) := by decide +kernel
theorem dX0_held_18 : decode cX0_held 18 = .ok (.ifCond .eq 11, 3) := by decide +kernel
theorem dX0_held_21 : decode cX0_held 21 = .ok (.iload_n 1, 1) := by decide +kernel
theorem dX0_held_22 : decode cX0_held 22 = .ok (.aload_n 0, 1) := by decide +kernel
theorem dX0_held_23 : decode cX0_held 23 = .ok (.iload_n 2, 1) := by decide +kernel
theorem dX0_held_24 : decode cX0_held 24 = .ok (.invokevirtual 149, 3) := by decide +kernel
theorem dX0_held_27 : decode cX0_held 27 = .ok (.ior, 1) := by decide +kernel
theorem dX0_held_28 : decode cX0_held 28 = .ok (.istore_n 1, 1) := by decide +kernel
theorem dX0_held_29 : decode cX0_held 29 = .ok (.iinc 2 1, 3) := by decide +kernel
theorem dX0_held_32 : decode cX0_held 32 = .ok (.goto (-28), 3) := by decide +kernel
theorem dX0_held_35 : decode cX0_held 35 = .ok (.iload_n 1, 1) := by decide +kernel
theorem dX0_held_36 : decode cX0_held 36 = .ok (.ireturn, 1) := by decide +kernel
set_option maxRecDepth 20000 in
theorem ggX0_paint_X0_needPixel : GoodIn wsX0_paint wsX0_needPixel := goodIn_ca (goodIn_r _ [5, 6, 7] (by decide +kernel) (by decide +kernel)) (goodIn_sub (fun _ h => List.mem_cons_of_mem _ (List.mem_append_left _ (List.mem_append_right _ h))) (by decide +kernel))
set_option maxRecDepth 20000 in
theorem gX0_paint_X0_needPixel : GoodIn wsX0_paint (va_wsS RX0 152 yX0_needPixel wsX0_needPixel) := goodIn_app (goodIn_of _ (by decide +kernel)) ggX0_paint_X0_needPixel
set_option maxRecDepth 20000 in
theorem ggX0_paint_X0_needBand : GoodIn wsX0_paint wsX0_needBand := goodIn_ca (goodIn_r _ [10, 6, 7] (by decide +kernel) (by decide +kernel)) (goodIn_sub (fun _ h => List.mem_cons_of_mem _ (List.mem_append_left _ (List.mem_append_right _ h))) (by decide +kernel))
set_option maxRecDepth 20000 in
theorem gX0_paint_X0_needBand : GoodIn wsX0_paint (va_wsS RX0 66 yX0_needBand wsX0_needBand) := goodIn_app (goodIn_of _ (by decide +kernel)) ggX0_paint_X0_needBand
set_option maxRecDepth 20000 in
theorem ggX0_paint_X0_needValue : GoodIn wsX0_paint wsX0_needValue := goodIn_ca (goodIn_r _ [13, 14, 15] (by decide +kernel) (by decide +kernel)) (goodIn_sub (fun _ h => List.mem_cons_of_mem _ (List.mem_append_right _ h)) (by decide +kernel))
set_option maxRecDepth 20000 in
theorem gX0_paint_X0_needValue : GoodIn wsX0_paint (va_wsS RX0 74 yX0_needValue wsX0_needValue) := goodIn_app (goodIn_of _ (by decide +kernel)) ggX0_paint_X0_needValue
set_option maxRecDepth 20000 in
theorem ggX0_paint_X0_swap : GoodIn wsX0_paint wsX0_swap := goodIn_r _ [18] (by decide +kernel) (by decide +kernel)
set_option maxRecDepth 20000 in
theorem gX0_paint_X0_swap : GoodIn wsX0_paint (va_wsS RX0 58 yX0_swap wsX0_swap) := goodIn_app (goodIn_of _ (by decide +kernel)) ggX0_paint_X0_swap
theorem dX0_paint_0 : decode cX0_paint 0 = .ok (.iload_n 1, 1) := by decide +kernel
theorem dX0_paint_1 : decode cX0_paint 1 = .ok (.invokestatic 152, 3) := by decide +kernel
theorem dX0_paint_4 : decode cX0_paint 4 = .ok (.iload_n 2, 1) := by decide +kernel
theorem dX0_paint_5 : decode cX0_paint 5 = .ok (.invokestatic 66, 3) := by decide +kernel
theorem dX0_paint_8 : decode cX0_paint 8 = .ok (.iload_n 3, 1) := by decide +kernel
theorem dX0_paint_9 : decode cX0_paint 9 = .ok (.invokestatic 74, 3) := by decide +kernel
theorem dX0_paint_12 : decode cX0_paint 12 = .ok (.aload_n 0, 1) := by decide +kernel
theorem dX0_paint_13 : decode cX0_paint 13 = .ok (.getfield 34, 3) := by decide +kernel
theorem dX0_paint_16 : decode cX0_paint 16 = .ok (.iload_n 1, 1) := by decide +kernel
theorem dX0_paint_17 : decode cX0_paint 17 = .ok (.iconst 3, 1) := by decide +kernel
theorem dX0_paint_18 : decode cX0_paint 18 = .ok (.imul, 1) := by decide +kernel
theorem dX0_paint_19 : decode cX0_paint 19 = .ok (.iload_n 2, 1) := by decide +kernel
theorem dX0_paint_20 : decode cX0_paint 20 = .ok (.iadd, 1) := by decide +kernel
theorem dX0_paint_21 : decode cX0_paint 21 = .ok (.iload_n 3, 1) := by decide +kernel
theorem dX0_paint_22 : decode cX0_paint 22 = .ok (.invokestatic 58, 3) := by decide +kernel
theorem dX0_paint_25 : decode cX0_paint 25 = .ok (.ireturn, 1) := by decide +kernel
set_option maxRecDepth 20000 in
theorem ggX0_spot_X0_needPixel : GoodIn wsX0_spot wsX0_needPixel := goodIn_ca (goodIn_r _ [5, 6, 7] (by decide +kernel) (by decide +kernel)) (goodIn_sub (fun _ h => List.mem_cons_of_mem _ (List.mem_append_left _ (List.mem_append_right _ h))) (by decide +kernel))
set_option maxRecDepth 20000 in
theorem gX0_spot_X0_needPixel : GoodIn wsX0_spot (va_wsS RX0 152 yX0_needPixel wsX0_needPixel) := goodIn_app (goodIn_of _ (by decide +kernel)) ggX0_spot_X0_needPixel
set_option maxRecDepth 20000 in
theorem ggX0_spot_X0_needInk : GoodIn wsX0_spot wsX0_needInk := goodIn_ca (goodIn_r _ [10, 6, 7] (by decide +kernel) (by decide +kernel)) (goodIn_sub (fun _ h => List.mem_cons_of_mem _ (List.mem_append_left _ (List.mem_append_right _ h))) (by decide +kernel))
set_option maxRecDepth 20000 in
theorem gX0_spot_X0_needInk : GoodIn wsX0_spot (va_wsS RX0 155 yX0_needInk wsX0_needInk) := goodIn_app (goodIn_of _ (by decide +kernel)) ggX0_spot_X0_needInk
set_option maxRecDepth 20000 in
theorem ggX0_spot_X0_needValue : GoodIn wsX0_spot wsX0_needValue := goodIn_ca (goodIn_r _ [13, 14, 15] (by decide +kernel) (by decide +kernel)) (goodIn_sub (fun _ h => List.mem_cons_of_mem _ (List.mem_append_right _ h)) (by decide +kernel))
set_option maxRecDepth 20000 in
theorem gX0_spot_X0_needValue : GoodIn wsX0_spot (va_wsS RX0 74 yX0_needValue wsX0_needValue) := goodIn_app (goodIn_of _ (by decide +kernel)) ggX0_spot_X0_needValue
set_option maxRecDepth 20000 in
theorem ggX0_spot_X0_swap : GoodIn wsX0_spot wsX0_swap := goodIn_r _ [18] (by decide +kernel) (by decide +kernel)
set_option maxRecDepth 20000 in
theorem gX0_spot_X0_swap : GoodIn wsX0_spot (va_wsS RX0 58 yX0_swap wsX0_swap) := goodIn_app (goodIn_of _ (by decide +kernel)) ggX0_spot_X0_swap
theorem dX0_spot_0 : decode cX0_spot 0 = .ok (.iload_n 1, 1) := by decide +kernel
theorem dX0_spot_1 : decode cX0_spot 1 = .ok (.invokestatic 152, 3) := by decide +kernel
theorem dX0_spot_4 : decode cX0_spot 4 = .ok (.iload_n 2, 1) := by decide +kernel
theorem dX0_spot_5 : decode cX0_spot 5 = .ok (.invokestatic 155, 3) := by decide +kernel
theorem dX0_spot_8 : decode cX0_spot 8 = .ok (.iload_n 3, 1) := by decide +kernel
theorem dX0_spot_9 : decode cX0_spot 9 = .ok (.invokestatic 74, 3) := by decide +kernel
theorem dX0_spot_12 : decode cX0_spot 12 = .ok (.aload_n 0, 1) := by decide +kernel
theorem dX0_spot_13 : decode cX0_spot 13 = .ok (.getfield 37, 3) := by decide +kernel
theorem dX0_spot_16 : decode cX0_spot 16 = .ok (.iload_n 1, 1) := by decide +kernel
theorem dX0_spot_17 : decode cX0_spot 17 = .ok (.iconst 3, 1) := by decide +kernel
theorem dX0_spot_18 : decode cX0_spot 18 = .ok (.imul, 1) := by decide +kernel
theorem dX0_spot_19 : decode cX0_spot 19 = .ok (.iload_n 2, 1) := by decide +kernel
theorem dX0_spot_20 : decode cX0_spot 20 = .ok (.iadd, 1) := by decide +kernel
theorem dX0_spot_21 : decode cX0_spot 21 = .ok (.iload_n 3, 1) := by decide +kernel
theorem dX0_spot_22 : decode cX0_spot 22 = .ok (.invokestatic 58, 3) := by decide +kernel
theorem dX0_spot_25 : decode cX0_spot 25 = .ok (.ireturn, 1) := by decide +kernel
set_option maxRecDepth 20000 in
theorem ggX0_mix_X0_needInk : GoodIn wsX0_mix wsX0_needInk := goodIn_ca (goodIn_r _ [5, 6, 7] (by decide +kernel) (by decide +kernel)) (goodIn_sub (fun _ h => List.mem_cons_of_mem _ (List.mem_append_left _ (List.mem_append_right _ h))) (by decide +kernel))
set_option maxRecDepth 20000 in
theorem gX0_mix_X0_needInk : GoodIn wsX0_mix (va_wsS RX0 155 yX0_needInk wsX0_needInk) := goodIn_app (goodIn_of _ (by decide +kernel)) ggX0_mix_X0_needInk
set_option maxRecDepth 20000 in
theorem ggX0_mix_X0_needBand : GoodIn wsX0_mix wsX0_needBand := goodIn_ca (goodIn_r _ [10, 6, 7] (by decide +kernel) (by decide +kernel)) (goodIn_sub (fun _ h => List.mem_cons_of_mem _ (List.mem_append_left _ (List.mem_append_right _ h))) (by decide +kernel))
set_option maxRecDepth 20000 in
theorem gX0_mix_X0_needBand : GoodIn wsX0_mix (va_wsS RX0 66 yX0_needBand wsX0_needBand) := goodIn_app (goodIn_of _ (by decide +kernel)) ggX0_mix_X0_needBand
set_option maxRecDepth 20000 in
theorem ggX0_mix_X0_needValue : GoodIn wsX0_mix wsX0_needValue := goodIn_ca (goodIn_r _ [13, 14, 15] (by decide +kernel) (by decide +kernel)) (goodIn_sub (fun _ h => List.mem_cons_of_mem _ (List.mem_append_right _ h)) (by decide +kernel))
set_option maxRecDepth 20000 in
theorem gX0_mix_X0_needValue : GoodIn wsX0_mix (va_wsS RX0 74 yX0_needValue wsX0_needValue) := goodIn_app (goodIn_of _ (by decide +kernel)) ggX0_mix_X0_needValue
set_option maxRecDepth 20000 in
theorem ggX0_mix_X0_swap : GoodIn wsX0_mix wsX0_swap := goodIn_r _ [18] (by decide +kernel) (by decide +kernel)
set_option maxRecDepth 20000 in
theorem gX0_mix_X0_swap : GoodIn wsX0_mix (va_wsS RX0 58 yX0_swap wsX0_swap) := goodIn_app (goodIn_of _ (by decide +kernel)) ggX0_mix_X0_swap
theorem dX0_mix_0 : decode cX0_mix 0 = .ok (.iload_n 1, 1) := by decide +kernel
theorem dX0_mix_1 : decode cX0_mix 1 = .ok (.invokestatic 155, 3) := by decide +kernel
theorem dX0_mix_4 : decode cX0_mix 4 = .ok (.iload_n 2, 1) := by decide +kernel
theorem dX0_mix_5 : decode cX0_mix 5 = .ok (.invokestatic 66, 3) := by decide +kernel
theorem dX0_mix_8 : decode cX0_mix 8 = .ok (.iload_n 3, 1) := by decide +kernel
theorem dX0_mix_9 : decode cX0_mix 9 = .ok (.invokestatic 74, 3) := by decide +kernel
theorem dX0_mix_12 : decode cX0_mix 12 = .ok (.aload_n 0, 1) := by decide +kernel
theorem dX0_mix_13 : decode cX0_mix 13 = .ok (.getfield 40, 3) := by decide +kernel
theorem dX0_mix_16 : decode cX0_mix 16 = .ok (.iload_n 1, 1) := by decide +kernel
theorem dX0_mix_17 : decode cX0_mix 17 = .ok (.iconst 3, 1) := by decide +kernel
theorem dX0_mix_18 : decode cX0_mix 18 = .ok (.imul, 1) := by decide +kernel
theorem dX0_mix_19 : decode cX0_mix 19 = .ok (.iload_n 2, 1) := by decide +kernel
theorem dX0_mix_20 : decode cX0_mix 20 = .ok (.iadd, 1) := by decide +kernel
theorem dX0_mix_21 : decode cX0_mix 21 = .ok (.iload_n 3, 1) := by decide +kernel
theorem dX0_mix_22 : decode cX0_mix 22 = .ok (.invokestatic 58, 3) := by decide +kernel
theorem dX0_mix_25 : decode cX0_mix 25 = .ok (.ireturn, 1) := by decide +kernel
set_option maxRecDepth 20000 in
theorem ggX0_shown_X0_needChain : GoodIn wsX0_shown wsX0_needChain := goodIn_ca (goodIn_r _ [7, 8, 9, 10, 65, 66, 67, 68, 69, 70, 71, 72, 73, 74, 75, 76, 77, 78, 79] (by decide +kernel) (by decide +kernel)) (goodIn_sub (fun _ h => List.mem_cons_of_mem _ (List.mem_append_right _ h)) (by decide +kernel))
set_option maxRecDepth 20000 in
theorem gX0_shown_X0_needChain : GoodIn wsX0_shown (wsV RX0 99 RX0 yX0_needChain wsX0_needChain) := goodIn_app (goodIn_of _ (by decide +kernel)) ggX0_shown_X0_needChain
set_option maxRecDepth 20000 in
theorem ggX0_shown_X0_needPixel : GoodIn wsX0_shown wsX0_needPixel := goodIn_ca (goodIn_r _ [13, 8, 9] (by decide +kernel) (by decide +kernel)) (goodIn_sub (fun _ h => List.mem_cons_of_mem _ (List.mem_append_right _ h)) (by decide +kernel))
set_option maxRecDepth 20000 in
theorem gX0_shown_X0_needPixel : GoodIn wsX0_shown (va_wsS RX0 152 yX0_needPixel wsX0_needPixel) := goodIn_app (goodIn_of _ (by decide +kernel)) ggX0_shown_X0_needPixel
set_option maxRecDepth 20000 in
theorem ggX0_shown_X0_needBand : GoodIn wsX0_shown wsX0_needBand := goodIn_ca (goodIn_r _ [16, 8, 9] (by decide +kernel) (by decide +kernel)) (goodIn_sub (fun _ h => List.mem_cons_of_mem _ (List.mem_append_right _ h)) (by decide +kernel))
set_option maxRecDepth 20000 in
theorem gX0_shown_X0_needBand : GoodIn wsX0_shown (va_wsS RX0 66 yX0_needBand wsX0_needBand) := goodIn_app (goodIn_of _ (by decide +kernel)) ggX0_shown_X0_needBand
set_option maxRecDepth 20000 in
theorem ggX0_shown_X0_inked : GoodIn wsX0_shown wsX0_inked := goodIn_r _ [20, 21, 22, 23, 24, 25, 26, 27, 28, 29, 6, 30, 31, 32, 33, 65, 66, 67, 68, 69, 70, 71, 72, 73, 74, 75, 76, 77, 78, 79] (by decide +kernel) (by decide +kernel)
set_option maxRecDepth 20000 in
theorem gX0_shown_X0_inked : GoodIn wsX0_shown (wsV RX0 160 RX0 yX0_inked wsX0_inked) := goodIn_app (goodIn_of _ (by decide +kernel)) ggX0_shown_X0_inked
set_option maxRecDepth 20000 in
theorem ggX0_shown_X0_pass : GoodIn wsX0_shown wsX0_pass := goodIn_r _ [37, 38, 39, 28, 29, 6, 30, 40, 41, 42, 43, 44, 45, 46, 24, 25, 26, 27, 47, 48, 49, 50, 51, 52, 53, 54, 55, 56, 57, 58, 59, 60, 61, 62, 63, 64, 65, 66, 67, 68, 69, 70, 71, 72, 73, 74, 75, 76, 77, 78, 79] (by decide +kernel) (by decide +kernel)
set_option maxRecDepth 20000 in
theorem gX0_shown_X0_pass : GoodIn wsX0_shown (wsV RX0 113 RX0 yX0_pass wsX0_pass) := goodIn_app (goodIn_of _ (by decide +kernel)) ggX0_shown_X0_pass
theorem dX0_shown_0 : decode cX0_shown 0 = .ok (.aload_n 0, 1) := by decide +kernel
theorem dX0_shown_1 : decode cX0_shown 1 = .ok (.iload_n 1, 1) := by decide +kernel
theorem dX0_shown_2 : decode cX0_shown 2 = .ok (.invokevirtual 99, 3) := by decide +kernel
theorem dX0_shown_5 : decode cX0_shown 5 = .ok (.iload_n 2, 1) := by decide +kernel
theorem dX0_shown_6 : decode cX0_shown 6 = .ok (.invokestatic 152, 3) := by decide +kernel
theorem dX0_shown_9 : decode cX0_shown 9 = .ok (.iload_n 3, 1) := by decide +kernel
theorem dX0_shown_10 : decode cX0_shown 10 = .ok (.invokestatic 66, 3) := by decide +kernel
theorem dX0_shown_13 : decode cX0_shown 13 = .ok (.iload 4, 2) := by decide +kernel
theorem dX0_shown_15 : decode cX0_shown 15 = .ok (.ifCond .lt 10, 3) := by decide +kernel
theorem dX0_shown_18 : decode cX0_shown 18 = .ok (.iload 4, 2) := by decide +kernel
theorem dX0_shown_20 : decode cX0_shown 20 = .ok (.bipush 7, 2) := by decide +kernel
theorem dX0_shown_22 : decode cX0_shown 22 = .ok (.if_icmp .le 13, 3) := by decide +kernel
theorem dX0_shown_25 : decode cX0_shown 25 = .ok (.new 80, 3) := by decide +kernel
theorem dX0_shown_28 : decode cX0_shown 28 = .ok (.dup, 1) := by decide +kernel
theorem dX0_shown_29 : decode cX0_shown 29 = .ok (.ldc 158, 2) := by decide +kernel
theorem dX0_shown_31 : decode cX0_shown 31 = .ok (.invokespecial 84, 3) := by decide +kernel
theorem dX0_shown_34 : decode cX0_shown 34 = .ok (.athrow, 1) := by decide +kernel
theorem dX0_shown_35 : decode cX0_shown 35 = .ok (.aload_n 0, 1) := by decide +kernel
theorem dX0_shown_36 : decode cX0_shown 36 = .ok (.iload_n 1, 1) := by decide +kernel
theorem dX0_shown_37 : decode cX0_shown 37 = .ok (.iload_n 3, 1) := by decide +kernel
theorem dX0_shown_38 : decode cX0_shown 38 = .ok (.aload_n 0, 1) := by decide +kernel
theorem dX0_shown_39 : decode cX0_shown 39 = .ok (.iload_n 2, 1) := by decide +kernel
theorem dX0_shown_40 : decode cX0_shown 40 = .ok (.iload_n 3, 1) := by decide +kernel
theorem dX0_shown_41 : decode cX0_shown 41 = .ok (.iload 4, 2) := by decide +kernel
theorem dX0_shown_43 : decode cX0_shown 43 = .ok (.invokevirtual 160, 3) := by decide +kernel
theorem dX0_shown_46 : decode cX0_shown 46 = .ok (.invokevirtual 113, 3) := by decide +kernel
theorem dX0_shown_49 : decode cX0_shown 49 = .ok (.ireturn, 1) := by decide +kernel
theorem dX0_needProfile_0 : decode cX0_needProfile 0 = .ok (.iload_n 1, 1) := by decide +kernel
theorem dX0_needProfile_1 : decode cX0_needProfile 1 = .ok (.ifCond .lt 11, 3) := by decide +kernel
theorem dX0_needProfile_4 : decode cX0_needProfile 4 = .ok (.iload_n 1, 1) := by decide +kernel
theorem dX0_needProfile_5 : decode cX0_needProfile 5 = .ok (.aload_n 0, 1) := by decide +kernel
theorem dX0_needProfile_6 : decode cX0_needProfile 6 = .ok (.getfield 43, 3) := by decide +kernel
theorem dX0_needProfile_9 : decode cX0_needProfile 9 = .ok (.if_icmp .lt 13, 3) := by decide +kernel
theorem dX0_needProfile_12 : decode cX0_needProfile 12 = .ok (.new 69, 3) := by decide +kernel
theorem dX0_needProfile_15 : decode cX0_needProfile 15 = .ok (.dup, 1) := by decide +kernel
theorem dX0_needProfile_16 : decode cX0_needProfile 16 = .ok (.ldc 163, 2) := by decide +kernel
theorem dX0_needProfile_18 : decode cX0_needProfile 18 = .ok (.invokespecial 73, 3) := by decide +kernel
theorem dX0_needProfile_21 : decode cX0_needProfile 21 = .ok (.athrow, 1) := by decide +kernel
theorem dX0_needProfile_22 : decode cX0_needProfile 22 = .ok (.return_, 1) := by decide +kernel
theorem dX0_needChain_0 : decode cX0_needChain 0 = .ok (.iload_n 1, 1) := by decide +kernel
theorem dX0_needChain_1 : decode cX0_needChain 1 = .ok (.ifCond .lt 11, 3) := by decide +kernel
theorem dX0_needChain_4 : decode cX0_needChain 4 = .ok (.iload_n 1, 1) := by decide +kernel
theorem dX0_needChain_5 : decode cX0_needChain 5 = .ok (.aload_n 0, 1) := by decide +kernel
theorem dX0_needChain_6 : decode cX0_needChain 6 = .ok (.getfield 94, 3) := by decide +kernel
theorem dX0_needChain_9 : decode cX0_needChain 9 = .ok (.if_icmp .lt 13, 3) := by decide +kernel
theorem dX0_needChain_12 : decode cX0_needChain 12 = .ok (.new 69, 3) := by decide +kernel
theorem dX0_needChain_15 : decode cX0_needChain 15 = .ok (.dup, 1) := by decide +kernel
theorem dX0_needChain_16 : decode cX0_needChain 16 = .ok (.ldc 165, 2) := by decide +kernel
theorem dX0_needChain_18 : decode cX0_needChain 18 = .ok (.invokespecial 73, 3) := by decide +kernel
theorem dX0_needChain_21 : decode cX0_needChain 21 = .ok (.athrow, 1) := by decide +kernel
theorem dX0_needChain_22 : decode cX0_needChain 22 = .ok (.return_, 1) := by decide +kernel
theorem dX0_needBand_0 : decode cX0_needBand 0 = .ok (.iload_n 0, 1) := by decide +kernel
theorem dX0_needBand_1 : decode cX0_needBand 1 = .ok (.ifCond .lt 8, 3) := by decide +kernel
theorem dX0_needBand_4 : decode cX0_needBand 4 = .ok (.iload_n 0, 1) := by decide +kernel
theorem dX0_needBand_5 : decode cX0_needBand 5 = .ok (.iconst 3, 1) := by decide +kernel
theorem dX0_needBand_6 : decode cX0_needBand 6 = .ok (.if_icmp .lt 13, 3) := by decide +kernel
theorem dX0_needBand_9 : decode cX0_needBand 9 = .ok (.new 69, 3) := by decide +kernel
theorem dX0_needBand_12 : decode cX0_needBand 12 = .ok (.dup, 1) := by decide +kernel
theorem dX0_needBand_13 : decode cX0_needBand 13 = .ok (.ldc 167, 2) := by decide +kernel
theorem dX0_needBand_15 : decode cX0_needBand 15 = .ok (.invokespecial 73, 3) := by decide +kernel
theorem dX0_needBand_18 : decode cX0_needBand 18 = .ok (.athrow, 1) := by decide +kernel
theorem dX0_needBand_19 : decode cX0_needBand 19 = .ok (.return_, 1) := by decide +kernel
theorem dX0_needPixel_0 : decode cX0_needPixel 0 = .ok (.iload_n 0, 1) := by decide +kernel
theorem dX0_needPixel_1 : decode cX0_needPixel 1 = .ok (.ifCond .lt 9, 3) := by decide +kernel
theorem dX0_needPixel_4 : decode cX0_needPixel 4 = .ok (.iload_n 0, 1) := by decide +kernel
theorem dX0_needPixel_5 : decode cX0_needPixel 5 = .ok (.bipush 6, 2) := by decide +kernel
theorem dX0_needPixel_7 : decode cX0_needPixel 7 = .ok (.if_icmp .lt 13, 3) := by decide +kernel
theorem dX0_needPixel_10 : decode cX0_needPixel 10 = .ok (.new 69, 3) := by decide +kernel
theorem dX0_needPixel_13 : decode cX0_needPixel 13 = .ok (.dup, 1) := by decide +kernel
theorem dX0_needPixel_14 : decode cX0_needPixel 14 = .ok (.ldc 169, 2) := by decide +kernel
theorem dX0_needPixel_16 : decode cX0_needPixel 16 = .ok (.invokespecial 73, 3) := by decide +kernel
theorem dX0_needPixel_19 : decode cX0_needPixel 19 = .ok (.athrow, 1) := by decide +kernel
theorem dX0_needPixel_20 : decode cX0_needPixel 20 = .ok (.return_, 1) := by decide +kernel
theorem dX0_needInk_0 : decode cX0_needInk 0 = .ok (.iload_n 0, 1) := by decide +kernel
theorem dX0_needInk_1 : decode cX0_needInk 1 = .ok (.ifCond .lt 8, 3) := by decide +kernel
theorem dX0_needInk_4 : decode cX0_needInk 4 = .ok (.iload_n 0, 1) := by decide +kernel
theorem dX0_needInk_5 : decode cX0_needInk 5 = .ok (.iconst 3, 1) := by decide +kernel
theorem dX0_needInk_6 : decode cX0_needInk 6 = .ok (.if_icmp .lt 13, 3) := by decide +kernel
theorem dX0_needInk_9 : decode cX0_needInk 9 = .ok (.new 69, 3) := by decide +kernel
theorem dX0_needInk_12 : decode cX0_needInk 12 = .ok (.dup, 1) := by decide +kernel
theorem dX0_needInk_13 : decode cX0_needInk 13 = .ok (.ldc 171, 2) := by decide +kernel
theorem dX0_needInk_15 : decode cX0_needInk 15 = .ok (.invokespecial 73, 3) := by decide +kernel
theorem dX0_needInk_18 : decode cX0_needInk 18 = .ok (.athrow, 1) := by decide +kernel
theorem dX0_needInk_19 : decode cX0_needInk 19 = .ok (.return_, 1) := by decide +kernel
theorem dX0_needValue_0 : decode cX0_needValue 0 = .ok (.iload_n 0, 1) := by decide +kernel
theorem dX0_needValue_1 : decode cX0_needValue 1 = .ok (.ifCond .lt 10, 3) := by decide +kernel
theorem dX0_needValue_4 : decode cX0_needValue 4 = .ok (.iload_n 0, 1) := by decide +kernel
theorem dX0_needValue_5 : decode cX0_needValue 5 = .ok (.sipush 255, 3) := by decide +kernel
theorem dX0_needValue_8 : decode cX0_needValue 8 = .ok (.if_icmp .le 13, 3) := by decide +kernel
theorem dX0_needValue_11 : decode cX0_needValue 11 = .ok (.new 80, 3) := by decide +kernel
theorem dX0_needValue_14 : decode cX0_needValue 14 = .ok (.dup, 1) := by decide +kernel
theorem dX0_needValue_15 : decode cX0_needValue 15 = .ok (.ldc 173, 2) := by decide +kernel
theorem dX0_needValue_17 : decode cX0_needValue 17 = .ok (.invokespecial 84, 3) := by decide +kernel
