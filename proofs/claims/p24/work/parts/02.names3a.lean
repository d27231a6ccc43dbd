theorem dX0_init_0 : decode cX0_init 0 = .ok (.aload_n 0, 1) := by decide +kernel
theorem dX0_init_1 : decode cX0_init 1 = .ok (.invokespecial 1, 3) := by decide +kernel
theorem dX0_init_4 : decode cX0_init 4 = .ok (.aload_n 0, 1) := by decide +kernel
theorem dX0_init_5 : decode cX0_init 5 = .ok (.bipush 120, 2) := by decide +kernel
theorem dX0_init_7 : decode cX0_init 7 = .ok (.newarray .int, 2) := by decide +kernel
theorem dX0_init_9 : decode cX0_init 9 = .ok (.putfield 9, 3) := by decide +kernel
theorem dX0_init_12 : decode cX0_init 12 = .ok (.aload_n 0, 1) := by decide +kernel
theorem dX0_init_13 : decode cX0_init 13 = .ok (.bipush 24, 2) := by decide +kernel
theorem dX0_init_15 : decode cX0_init 15 = .ok (.newarray .int, 2) := by decide +kernel
theorem dX0_init_17 : decode cX0_init 17 = .ok (.putfield 13, 3) := by decide +kernel
theorem dX0_init_20 : decode cX0_init 20 = .ok (.aload_n 0, 1) := by decide +kernel
theorem dX0_init_21 : decode cX0_init 21 = .ok (.bipush 24, 2) := by decide +kernel
theorem dX0_init_23 : decode cX0_init 23 = .ok (.newarray .int, 2) := by decide +kernel
theorem dX0_init_25 : decode cX0_init 25 = .ok (.putfield 16, 3) := by decide +kernel
theorem dX0_init_28 : decode cX0_init 28 = .ok (.aload_n 0, 1) := by decide +kernel
theorem dX0_init_29 : decode cX0_init 29 = .ok (.bipush 8, 2) := by decide +kernel
theorem dX0_init_31 : decode cX0_init 31 = .ok (.newarray .int, 2) := by decide +kernel
theorem dX0_init_33 : decode cX0_init 33 = .ok (.putfield 19, 3) := by decide +kernel
theorem dX0_init_36 : decode cX0_init 36 = .ok (.aload_n 0, 1) := by decide +kernel
theorem dX0_init_37 : decode cX0_init 37 = .ok (.bipush 36, 2) := by decide +kernel
theorem dX0_init_39 : decode cX0_init 39 = .ok (.newarray .int, 2) := by decide +kernel
theorem dX0_init_41 : decode cX0_init 41 = .ok (.putfield 22, 3) := by decide +kernel
theorem dX0_init_44 : decode cX0_init 44 = .ok (.aload_n 0, 1) := by decide +kernel
theorem dX0_init_45 : decode cX0_init 45 = .ok (.bipush 6, 2) := by decide +kernel
theorem dX0_init_47 : decode cX0_init 47 = .ok (.newarray .int, 2) := by decide +kernel
theorem dX0_init_49 : decode cX0_init 49 = .ok (.putfield 25, 3) := by decide +kernel
theorem dX0_init_52 : decode cX0_init 52 = .ok (.aload_n 0, 1) := by decide +kernel
theorem dX0_init_53 : decode cX0_init 53 = .ok (.bipush 90, 2) := by decide +kernel
theorem dX0_init_55 : decode cX0_init 55 = .ok (.newarray .int, 2) := by decide +kernel
theorem dX0_init_57 : decode cX0_init 57 = .ok (.putfield 28, 3) := by decide +kernel
theorem dX0_init_60 : decode cX0_init 60 = .ok (.aload_n 0, 1) := by decide +kernel
theorem dX0_init_61 : decode cX0_init 61 = .ok (.bipush 15, 2) := by decide +kernel
theorem dX0_init_63 : decode cX0_init 63 = .ok (.newarray .int, 2) := by decide +kernel
theorem dX0_init_65 : decode cX0_init 65 = .ok (.putfield 31, 3) := by decide +kernel
theorem dX0_init_68 : decode cX0_init 68 = .ok (.aload_n 0, 1) := by decide +kernel
theorem dX0_init_69 : decode cX0_init 69 = .ok (.bipush 18, 2) := by decide +kernel
theorem dX0_init_71 : decode cX0_init 71 = .ok (.newarray .int, 2) := by decide +kernel
theorem dX0_init_73 : decode cX0_init 73 = .ok (.putfield 34, 3) := by decide +kernel
theorem dX0_init_76 : decode cX0_init 76 = .ok (.aload_n 0, 1) := by decide +kernel
theorem dX0_init_77 : decode cX0_init 77 = .ok (.bipush 18, 2) := by decide +kernel
theorem dX0_init_79 : decode cX0_init 79 = .ok (.newarray .int, 2) := by decide +kernel
theorem dX0_init_81 : decode cX0_init 81 = .ok (.putfield 37, 3) := by decide +kernel
theorem dX0_init_84 : decode cX0_init 84 = .ok (.aload_n 0, 1) := by decide +kernel
theorem dX0_init_85 : decode cX0_init 85 = .ok (.bipush 9, 2) := by decide +kernel
theorem dX0_init_87 : decode cX0_init 87 = .ok (.newarray .int, 2) := by decide +kernel
theorem dX0_init_89 : decode cX0_init 89 = .ok (.putfield 40, 3) := by decide +kernel
theorem dX0_init_92 : decode cX0_init 92 = .ok (.return_, 1) := by decide +kernel
set_option maxRecDepth 20000 in
theorem ggX0_profile_X0_valueOfPlace : GoodIn wsX0_profile wsX0_valueOfPlace := goodIn_r _ [11, 12, 13, 14, 15] (by decide +kernel) (by decide +kernel)
set_option maxRecDepth 20000 in
theorem gX0_profile_X0_valueOfPlace : GoodIn wsX0_profile (va_wsS RX0 54 yX0_valueOfPlace wsX0_valueOfPlace) := goodIn_app (goodIn_of _ (by decide +kernel)) ggX0_profile_X0_valueOfPlace
set_option maxRecDepth 20000 in
theorem ggX0_profile_X0_swap : GoodIn wsX0_profile wsX0_swap := goodIn_r _ [18] (by decide +kernel) (by decide +kernel)
set_option maxRecDepth 20000 in
theorem gX0_profile_X0_swap : GoodIn wsX0_profile (va_wsS RX0 58 yX0_swap wsX0_swap) := goodIn_app (goodIn_of _ (by decide +kernel)) ggX0_profile_X0_swap
theorem dX0_profile_0 : decode cX0_profile 0 = .ok (.aload_n 0, 1) := by decide +kernel
theorem dX0_profile_1 : decode cX0_profile 1 = .ok (.getfield 43, 3) := by decide +kernel
theorem dX0_profile_4 : decode cX0_profile 4 = .ok (.bipush 8, 2) := by decide +kernel
theorem dX0_profile_6 : decode cX0_profile 6 = .ok (.if_icmp .lt 13, 3) := by decide +kernel
theorem dX0_profile_9 : decode cX0_profile 9 = .ok (.new 47, 3) := by decide +kernel
theorem dX0_profile_12 : decode cX0_profile 12 = .ok (.dup, 1) := by decide +kernel
theorem dX0_profile_13 : decode cX0_profile 13 = .ok (.ldc 49, 2) := by decide +kernel
theorem dX0_profile_15 : decode cX0_profile 15 = .ok (.invokespecial 51, 3) := by decide +kernel
theorem dX0_profile_18 : decode cX0_profile 18 = .ok (.athrow, 1) := by decide +kernel
theorem dX0_profile_19 : decode cX0_profile 19 = .ok (.aload_n 0, 1) := by decide +kernel
theorem dX0_profile_20 : decode cX0_profile 20 = .ok (.getfield 43, 3) := by decide +kernel
theorem dX0_profile_23 : decode cX0_profile 23 = .ok (.istore_n 1, 1) := by decide +kernel
theorem dX0_profile_24 : decode cX0_profile 24 = .ok (.iconst 0, 1) := by decide +kernel
theorem dX0_profile_25 : decode cX0_profile 25 = .ok (.istore_n 2, 1) := by decide +kernel
theorem dX0_profile_26 : decode cX0_profile 26 = .ok (.iload_n 2, 1) := by decide +kernel
theorem dX0_profile_27 : decode cX0_profile 27 = .ok (.iconst 3, 1) := by decide +kernel
theorem dX0_profile_28 : decode cX0_profile 28 = .ok (.if_icmp .ge 71, 3) := by decide +kernel
theorem dX0_profile_31 : decode cX0_profile 31 = .ok (.iload_n 1, 1) := by decide +kernel
theorem dX0_profile_32 : decode cX0_profile 32 = .ok (.iconst 3, 1) := by decide +kernel
theorem dX0_profile_33 : decode cX0_profile 33 = .ok (.imul, 1) := by decide +kernel
theorem dX0_profile_34 : decode cX0_profile 34 = .ok (.iload_n 2, 1) := by decide +kernel
theorem dX0_profile_35 : decode cX0_profile 35 = .ok (.iadd, 1) := by decide +kernel
theorem dX0_profile_36 : decode cX0_profile 36 = .ok (.istore_n 3, 1) := by decide +kernel
theorem dX0_profile_37 : decode cX0_profile 37 = .ok (.iconst 0, 1) := by decide +kernel
theorem dX0_profile_38 : decode cX0_profile 38 = .ok (.istore 4, 2) := by decide +kernel
theorem dX0_profile_40 : decode cX0_profile 40 = .ok (.iload 4, 2) := by decide +kernel
theorem dX0_profile_42 : decode cX0_profile 42 = .ok (.iconst 5, 1) := by decide +kernel
theorem dX0_profile_43 : decode cX0_profile 43 = .ok (.if_icmp .ge 28, 3) := by decide +kernel
theorem dX0_profile_46 : decode cX0_profile 46 = .ok (.aload_n 0, 1) := by decide +kernel
theorem dX0_profile_47 : decode cX0_profile 47 = .ok (.getfield 9, 3) := by decide +kernel
theorem dX0_profile_50 : decode cX0_profile 50 = .ok (.iload_n 3, 1) := by decide +kernel
theorem dX0_profile_51 : decode cX0_profile 51 = .ok (.iconst 5, 1) := by decide +kernel
theorem dX0_profile_52 : decode cX0_profile 52 = .ok (.imul, 1) := by decide +kernel
theorem dX0_profile_53 : decode cX0_profile 53 = .ok (.iload 4, 2) := by decide +kernel
theorem dX0_profile_55 : decode cX0_profile 55 = .ok (.iadd, 1) := by decide +kernel
theorem dX0_profile_56 : decode cX0_profile 56 = .ok (.iload 4, 2) := by decide +kernel
theorem dX0_profile_58 : decode cX0_profile 58 = .ok (.invokestatic 54, 3) := by decide +kernel
theorem dX0_profile_61 : decode cX0_profile 61 = .ok (.invokestatic 58, 3) := by decide +kernel
theorem dX0_profile_64 : decode cX0_profile 64 = .ok (.pop, 1) := by decide +kernel
theorem dX0_profile_65 : decode cX0_profile 65 = .ok (.iinc 4 1, 3) := by decide +kernel
theorem dX0_profile_68 : decode cX0_profile 68 = .ok (.goto (-28), 3) := by decide +kernel
theorem dX0_profile_71 : decode cX0_profile 71 = .ok (.aload_n 0, 1) := by decide +kernel
theorem dX0_profile_72 : decode cX0_profile 72 = .ok (.getfield 13, 3) := by decide +kernel
theorem dX0_profile_75 : decode cX0_profile 75 = .ok (.iload_n 3, 1) := by decide +kernel
theorem dX0_profile_76 : decode cX0_profile 76 = .ok (.iconst 0, 1) := by decide +kernel
theorem dX0_profile_77 : decode cX0_profile 77 = .ok (.invokestatic 58, 3) := by decide +kernel
theorem dX0_profile_80 : decode cX0_profile 80 = .ok (.pop, 1) := by decide +kernel
theorem dX0_profile_81 : decode cX0_profile 81 = .ok (.aload_n 0, 1) := by decide +kernel
theorem dX0_profile_82 : decode cX0_profile 82 = .ok (.getfield 16, 3) := by decide +kernel
theorem dX0_profile_85 : decode cX0_profile 85 = .ok (.iload_n 3, 1) := by decide +kernel
theorem dX0_profile_86 : decode cX0_profile 86 = .ok (.sipush 255, 3) := by decide +kernel
theorem dX0_profile_89 : decode cX0_profile 89 = .ok (.invokestatic 58, 3) := by decide +kernel
theorem dX0_profile_92 : decode cX0_profile 92 = .ok (.pop, 1) := by decide +kernel
theorem dX0_profile_93 : decode cX0_profile 93 = .ok (.iinc 2 1, 3) := by decide +kernel
theorem dX0_profile_96 : decode cX0_profile 96 = .ok (.goto (-70), 3) := by decide +kernel
theorem dX0_profile_99 : decode cX0_profile 99 = .ok (.aload_n 0, 1) := by decide +kernel
theorem dX0_profile_100 : decode cX0_profile 100 = .ok (.getfield 19, 3) := by decide +kernel
theorem dX0_profile_103 : decode cX0_profile 103 = .ok (.iload_n 1, 1) := by decide +kernel
theorem dX0_profile_104 : decode cX0_profile 104 = .ok (.iconst 0, 1) := by decide +kernel
theorem dX0_profile_105 : decode cX0_profile 105 = .ok (.invokestatic 58, 3) := by decide +kernel
theorem dX0_profile_108 : decode cX0_profile 108 = .ok (.pop, 1) := by decide +kernel
theorem dX0_profile_109 : decode cX0_profile 109 = .ok (.aload_n 0, 1) := by decide +kernel
theorem dX0_profile_110 : decode cX0_profile 110 = .ok (.dup, 1) := by decide +kernel
theorem dX0_profile_111 : decode cX0_profile 111 = .ok (.getfield 43, 3) := by decide +kernel
theorem dX0_profile_114 : decode cX0_profile 114 = .ok (.iconst 1, 1) := by decide +kernel
theorem dX0_profile_115 : decode cX0_profile 115 = .ok (.iadd, 1) := by decide +kernel
theorem dX0_profile_116 : decode cX0_profile 116 = .ok (.putfield 43, 3) := by decide +kernel
theorem dX0_profile_119 : decode cX0_profile 119 = .ok (.iload_n 1, 1) := by decide +kernel
theorem dX0_profile_120 : decode cX0_profile 120 = .ok (.ireturn, 1) := by decide +kernel
set_option maxRecDepth 20000 in
theorem ggX0_bend_X0_needProfile : GoodIn wsX0_bend wsX0_needProfile := goodIn_ca (goodIn_r _ [8, 1, 2, 9, 44, 45, 46, 47, 48, 49, 50, 51, 52, 53, 54, 55, 56, 57, 58] (by decide +kernel) (by decide +kernel)) (goodIn_sub (fun _ h => List.mem_cons_of_mem _ (List.mem_append_left _ (List.mem_append_left _ (List.mem_append_right _ h)))) (by decide +kernel))
set_option maxRecDepth 20000 in
theorem gX0_bend_X0_needProfile : GoodIn wsX0_bend (wsV RX0 62 RX0 yX0_needProfile wsX0_needProfile) := goodIn_app (goodIn_of _ (by decide +kernel)) ggX0_bend_X0_needProfile
set_option maxRecDepth 20000 in
theorem ggX0_bend_X0_needBand : GoodIn wsX0_bend wsX0_needBand := goodIn_ca (goodIn_r _ [12, 1, 2] (by decide +kernel) (by decide +kernel)) (goodIn_sub (fun _ h => List.mem_cons_of_mem _ (List.mem_append_left _ (List.mem_append_left _ (List.mem_append_right _ h)))) (by decide +kernel))
set_option maxRecDepth 20000 in
theorem gX0_bend_X0_needBand : GoodIn wsX0_bend (va_wsS RX0 66 yX0_needBand wsX0_needBand) := goodIn_app (goodIn_of _ (by decide +kernel)) ggX0_bend_X0_needBand
set_option maxRecDepth 20000 in
theorem ggX0_bend_X0_needValue : GoodIn wsX0_bend wsX0_needValue := goodIn_ca (goodIn_r _ [15, 16, 17] (by decide +kernel) (by decide +kernel)) (goodIn_sub (fun _ h => List.mem_cons_of_mem _ (List.mem_append_left _ (List.mem_append_right _ h))) (by decide +kernel))
set_option maxRecDepth 20000 in
theorem gX0_bend_X0_needValue : GoodIn wsX0_bend (va_wsS RX0 74 yX0_needValue wsX0_needValue) := goodIn_app (goodIn_of _ (by decide +kernel)) ggX0_bend_X0_needValue
set_option maxRecDepth 20000 in
theorem ggX0_bend_X0_needFreeProfile : GoodIn wsX0_bend wsX0_needFreeProfile := goodIn_ca (goodIn_r _ [21, 22, 23, 24, 25, 26, 7, 27, 28, 29, 30, 31, 32, 33, 34, 35, 36, 37, 38, 39, 40, 44, 45, 46, 47, 48, 49, 50, 51, 52, 53, 54, 55, 56, 57, 58] (by decide +kernel) (by decide +kernel)) (goodIn_sub (fun _ h => List.mem_cons_of_mem _ (List.mem_append_right _ h)) (by decide +kernel))
set_option maxRecDepth 20000 in
theorem gX0_bend_X0_needFreeProfile : GoodIn wsX0_bend (wsV RX0 77 RX0 yX0_needFreeProfile wsX0_needFreeProfile) := goodIn_app (goodIn_of _ (by decide +kernel)) ggX0_bend_X0_needFreeProfile
set_option maxRecDepth 20000 in
theorem ggX0_bend_X0_swap : GoodIn wsX0_bend wsX0_swap := goodIn_r _ [43] (by decide +kernel) (by decide +kernel)
set_option maxRecDepth 20000 in
theorem gX0_bend_X0_swap : GoodIn wsX0_bend (va_wsS RX0 58 yX0_swap wsX0_swap) := goodIn_app (goodIn_of _ (by decide +kernel)) ggX0_bend_X0_swap
theorem dX0_bend_0 : decode cX0_bend 0 = .ok (.aload_n 0, 1) := by decide +kernel
theorem dX0_bend_1 : decode cX0_bend 1 = .ok (.iload_n 1, 1) := by decide +kernel
theorem dX0_bend_2 : decode cX0_bend 2 = .ok (.invokevirtual 62, 3) := by decide +kernel
theorem dX0_bend_5 : decode cX0_bend 5 = .ok (.iload_n 2, 1) := by decide +kernel
theorem dX0_bend_6 : decode cX0_bend 6 = .ok (.invokestatic 66, 3) := by decide +kernel
theorem dX0_bend_9 : decode cX0_bend 9 = .ok (.iload_n 3, 1) := by decide +kernel
theorem dX0_bend_10 : decode cX0_bend 10 = .ok (.ifCond .lt 8, 3) := by decide +kernel
theorem dX0_bend_13 : decode cX0_bend 13 = .ok (.iload_n 3, 1) := by decide +kernel
theorem dX0_bend_14 : decode cX0_bend 14 = .ok (.iconst 5, 1) := by decide +kernel
theorem dX0_bend_15 : decode cX0_bend 15 = .ok (.if_icmp .lt 13, 3) := by decide +kernel
theorem dX0_bend_18 : decode cX0_bend 18 = .ok (.new 69, 3) := by decide +kernel
theorem dX0_bend_21 : decode cX0_bend 21 = .ok (.dup, 1) := by decide +kernel
theorem dX0_bend_22 : decode cX0_bend 22 = .ok (.ldc 71, 2) := by decide +kernel
theorem dX0_bend_24 : decode cX0_bend 24 = .ok (.invokespecial 73, 3) := by decide +kernel
theorem dX0_bend_27 : decode cX0_bend 27 = .ok (.athrow, 1) := by decide +kernel
theorem dX0_bend_28 : decode cX0_bend 28 = .ok (.iload 4, 2) := by decide +kernel
theorem dX0_bend_30 : decode cX0_bend 30 = .ok (.invokestatic 74, 3) := by decide +kernel
theorem dX0_bend_33 : decode cX0_bend 33 = .ok (.aload_n 0, 1) := by decide +kernel
theorem dX0_bend_34 : decode cX0_bend 34 = .ok (.iload_n 1, 1) := by decide +kernel
theorem dX0_bend_35 : decode cX0_bend 35 = .ok (.invokevirtual 77, 3) := by decide +kernel
theorem dX0_bend_38 : decode cX0_bend 38 = .ok (.aload_n 0, 1) := by decide +kernel
theorem dX0_bend_39 : decode cX0_bend 39 = .ok (.getfield 9, 3) := by decide +kernel
theorem dX0_bend_42 : decode cX0_bend 42 = .ok (.iload_n 1, 1) := by decide +kernel
theorem dX0_bend_43 : decode cX0_bend 43 = .ok (.iconst 3, 1) := by decide +kernel
theorem dX0_bend_44 : decode cX0_bend 44 = .ok (.imul, 1) := by decide +kernel
theorem dX0_bend_45 : decode cX0_bend 45 = .ok (.iload_n 2, 1) := by decide +kernel
theorem dX0_bend_46 : decode cX0_bend 46 = .ok (.iadd, 1) := by decide +kernel
theorem dX0_bend_47 : decode cX0_bend 47 = .ok (.iconst 5, 1) := by decide +kernel
theorem dX0_bend_48 : decode cX0_bend 48 = .ok (.imul, 1) := by decide +kernel
theorem dX0_bend_49 : decode cX0_bend 49 = .ok (.iload_n 3, 1) := by decide +kernel
theorem dX0_bend_50 : decode cX0_bend 50 = .ok (.iadd, 1) := by decide +kernel
theorem dX0_bend_51 : decode cX0_bend 51 = .ok (.iload 4, 2) := by decide +kernel
theorem dX0_bend_53 : decode cX0_bend 53 = .ok (.invokestatic 58, 3) := by decide +kernel
theorem dX0_bend_56 : decode cX0_bend 56 = .ok (.ireturn, 1) := by decide +kernel
set_option maxRecDepth 20000 in
theorem ggX0_reach_X0_needProfile : GoodIn wsX0_reach wsX0_needProfile := goodIn_ca (goodIn_r _ [9, 10, 11, 12, 45, 46, 47, 48, 49, 50, 51, 52, 53, 54, 55, 56, 57, 58, 59] (by decide +kernel) (by decide +kernel)) (goodIn_sub (fun _ h => List.mem_cons_of_mem _ (List.mem_append_left _ (List.mem_append_right _ h))) (by decide +kernel))
set_option maxRecDepth 20000 in
theorem gX0_reach_X0_needProfile : GoodIn wsX0_reach (wsV RX0 62 RX0 yX0_needProfile wsX0_needProfile) := goodIn_app (goodIn_of _ (by decide +kernel)) ggX0_reach_X0_needProfile
set_option maxRecDepth 20000 in
theorem ggX0_reach_X0_needBand : GoodIn wsX0_reach wsX0_needBand := goodIn_ca (goodIn_r _ [15, 10, 11] (by decide +kernel) (by decide +kernel)) (goodIn_sub (fun _ h => List.mem_cons_of_mem _ (List.mem_append_left _ (List.mem_append_right _ h))) (by decide +kernel))
set_option maxRecDepth 20000 in
theorem gX0_reach_X0_needBand : GoodIn wsX0_reach (va_wsS RX0 66 yX0_needBand wsX0_needBand) := goodIn_app (goodIn_of _ (by decide +kernel)) ggX0_reach_X0_needBand
set_option maxRecDepth 20000 in
theorem ggX0_reach_X0_needValue : GoodIn wsX0_reach wsX0_needValue := goodIn_ca (goodIn_r _ [18, 1, 2] (by decide +kernel) (by decide +kernel)) (goodIn_sub (fun _ h => List.mem_cons_of_mem _ (List.mem_append_left _ (List.mem_append_left _ (List.mem_append_right _ h)))) (by decide +kernel))
set_option maxRecDepth 20000 in
theorem gX0_reach_X0_needValue : GoodIn wsX0_reach (va_wsS RX0 74 yX0_needValue wsX0_needValue) := goodIn_app (goodIn_of _ (by decide +kernel)) ggX0_reach_X0_needValue
set_option maxRecDepth 20000 in
theorem ggX0_reach_X0_needFreeProfile : GoodIn wsX0_reach wsX0_needFreeProfile := goodIn_ca (goodIn_r _ [22, 23, 24, 25, 26, 27, 8, 28, 29, 30, 31, 32, 33, 34, 35, 36, 37, 38, 39, 40, 41, 45, 46, 47, 48, 49, 50, 51, 52, 53, 54, 55, 56, 57, 58, 59] (by decide +kernel) (by decide +kernel)) (goodIn_sub (fun _ h => List.mem_cons_of_mem _ (List.mem_append_right _ h)) (by decide +kernel))
set_option maxRecDepth 20000 in
theorem gX0_reach_X0_needFreeProfile : GoodIn wsX0_reach (wsV RX0 77 RX0 yX0_needFreeProfile wsX0_needFreeProfile) := goodIn_app (goodIn_of _ (by decide +kernel)) ggX0_reach_X0_needFreeProfile
set_option maxRecDepth 20000 in
theorem ggX0_reach_X0_swap : GoodIn wsX0_reach wsX0_swap := goodIn_r _ [44] (by decide +kernel) (by decide +kernel)
set_option maxRecDepth 20000 in
theorem gX0_reach_X0_swap : GoodIn wsX0_reach (va_wsS RX0 58 yX0_swap wsX0_swap) := goodIn_app (goodIn_of _ (by decide +kernel)) ggX0_reach_X0_swap
theorem dX0_reach_0 : decode cX0_reach 0 = .ok (.aload_n 0, 1) := by decide +kernel
theorem dX0_reach_1 : decode cX0_reach 1 = .ok (.iload_n 1, 1) := by decide +kernel
theorem dX0_reach_2 : decode cX0_reach 2 = .ok (.invokevirtual 62, 3) := by decide +kernel
theorem dX0_reach_5 : decode cX0_reach 5 = .ok (.iload_n 2, 1) := by decide +kernel
theorem dX0_reach_6 : decode cX0_reach 6 = .ok (.invokestatic 66, 3) := by decide +kernel
theorem dX0_reach_9 : decode cX0_reach 9 = .ok (.iload_n 3, 1) := by decide +kernel
theorem dX0_reach_10 : decode cX0_reach 10 = .ok (.invokestatic 74, 3) := by decide +kernel
theorem dX0_reach_13 : decode cX0_reach 13 = .ok (.iload 4, 2) := by decide +kernel
theorem dX0_reach_15 : decode cX0_reach 15 = .ok (.invokestatic 74, 3) := by decide +kernel
theorem dX0_reach_18 : decode cX0_reach 18 = .ok (.iload 4, 2) := by decide +kernel
theorem dX0_reach_20 : decode cX0_reach 20 = .ok (.iload_n 3, 1) := by decide +kernel
theorem dX0_reach_21 : decode cX0_reach 21 = .ok (.if_icmp .ge 13, 3) := by decide +kernel
theorem dX0_reach_24 : decode cX0_reach 24 = .ok (.new 80, 3) := by decide +kernel
theorem dX0_reach_27 : decode cX0_reach 27 = .ok (.dup, 1) := by decide +kernel
theorem dX0_reach_28 : decode cX0_reach 28 = .ok (.ldc 82, 2) := by decide +kernel
theorem dX0_reach_30 : decode cX0_reach 30 = .ok (.invokespecial 84, 3) := by decide +kernel
theorem dX0_reach_33 : decode cX0_reach 33 = .ok (.athrow, 1) := by decide +kernel
theorem dX0_reach_34 : decode cX0_reach 34 = .ok (.aload_n 0, 1) := by decide +kernel
theorem dX0_reach_35 : decode cX0_reach 35 = .ok (.iload_n 1, 1) := by decide +kernel
theorem dX0_reach_36 : decode cX0_reach 36 = .ok (.invokevirtual 77, 3) := by decide +kernel
theorem dX0_reach_39 : decode cX0_reach 39 = .ok (.iload_n 1, 1) := by decide +kernel
theorem dX0_reach_40 : decode cX0_reach 40 = .ok (.iconst 3, 1) := by decide +kernel
theorem dX0_reach_41 : decode cX0_reach 41 = .ok (.imul, 1) := by decide +kernel
theorem dX0_reach_42 : decode cX0_reach 42 = .ok (.iload_n 2, 1) := by decide +kernel
theorem dX0_reach_43 : decode cX0_reach 43 = .ok (.iadd, 1) := by decide +kernel
theorem dX0_reach_44 : decode cX0_reach 44 = .ok (.istore 5, 2) := by decide +kernel
theorem dX0_reach_46 : decode cX0_reach 46 = .ok (.aload_n 0, 1) := by decide +kernel
theorem dX0_reach_47 : decode cX0_reach 47 = .ok (.getfield 13, 3) := by decide +kernel
theorem dX0_reach_50 : decode cX0_reach 50 = .ok (.iload 5, 2) := by decide +kernel
theorem dX0_reach_52 : decode cX0_reach 52 = .ok (.iload_n 3, 1) := by decide +kernel
theorem dX0_reach_53 : decode cX0_reach 53 = .ok (.invokestatic 58, 3) := by decide +kernel
theorem dX0_reach_56 : decode cX0_reach 56 = .ok (.istore 6, 2) := by decide +kernel
theorem dX0_reach_58 : decode cX0_reach 58 = .ok (.aload_n 0, 1) := by decide +kernel
theorem dX0_reach_59 : decode cX0_reach 59 = .ok (.getfield 16, 3) := by decide +kernel
theorem dX0_reach_62 : decode cX0_reach 62 = .ok (.iload 5, 2) := by decide +kernel
theorem dX0_reach_64 : decode cX0_reach 64 = .ok (.iload 4, 2) := by decide +kernel
theorem dX0_reach_66 : decode cX0_reach 66 = .ok (.invokestatic 58, 3) := by decide +kernel
theorem dX0_reach_69 : decode cX0_reach 69 = .ok (.istore 7, 2) := by decide +kernel
theorem dX0_reach_71 : decode cX0_reach 71 = .ok (.iload 7, 2) := by decide +kernel
theorem dX0_reach_73 : decode cX0_reach 73 = .ok (.iload 6, 2) := by decide +kernel
theorem dX0_reach_75 : decode cX0_reach 75 = .ok (.isub, 1) := by decide +kernel
theorem dX0_reach_76 : decode cX0_reach 76 = .ok (.iconst 1, 1) := by decide +kernel
theorem dX0_reach_77 : decode cX0_reach 77 = .ok (.iadd, 1) := by decide +kernel
theorem dX0_reach_78 : decode cX0_reach 78 = .ok (.ireturn, 1) := by decide +kernel
set_option maxRecDepth 20000 in
theorem ggX0_way_X0_needProfile : GoodIn wsX0_way wsX0_needProfile := goodIn_ca (goodIn_r _ [8, 9, 10, 11, 38, 39, 40, 41, 42, 43, 44, 45, 46, 47, 48, 49, 50, 51, 52] (by decide +kernel) (by decide +kernel)) (goodIn_sub (fun _ h => List.mem_cons_of_mem _ (List.mem_append_left _ (List.mem_append_right _ h))) (by decide +kernel))
set_option maxRecDepth 20000 in
theorem gX0_way_X0_needProfile : GoodIn wsX0_way (wsV RX0 62 RX0 yX0_needProfile wsX0_needProfile) := goodIn_app (goodIn_of _ (by decide +kernel)) ggX0_way_X0_needProfile
set_option maxRecDepth 20000 in
theorem ggX0_way_X0_needFreeProfile : GoodIn wsX0_way wsX0_needFreeProfile := goodIn_ca (goodIn_r _ [15, 16, 17, 18, 19, 20, 7, 21, 22, 23, 24, 25, 26, 27, 28, 29, 30, 31, 32, 33, 34, 38, 39, 40, 41, 42, 43, 44, 45, 46, 47, 48, 49, 50, 51, 52] (by decide +kernel) (by decide +kernel)) (goodIn_sub (fun _ h => List.mem_cons_of_mem _ (List.mem_append_right _ h)) (by decide +kernel))
set_option maxRecDepth 20000 in
theorem gX0_way_X0_needFreeProfile : GoodIn wsX0_way (wsV RX0 77 RX0 yX0_needFreeProfile wsX0_needFreeProfile) := goodIn_app (goodIn_of _ (by decide +kernel)) ggX0_way_X0_needFreeProfile
set_option maxRecDepth 20000 in
theorem ggX0_way_X0_swap : GoodIn wsX0_way wsX0_swap := goodIn_r _ [37] (by decide +kernel) (by decide +kernel)
set_option maxRecDepth 20000 in
theorem gX0_way_X0_swap : GoodIn wsX0_way (va_wsS RX0 58 yX0_swap wsX0_swap) := goodIn_app (goodIn_of _ (by decide +kernel)) ggX0_way_X0_swap
theorem dX0_way_0 : decode cX0_way 0 = .ok (.aload_n 0, 1) := by decide +kernel
theorem dX0_way_1 : decode cX0_way 1 = .ok (.iload_n 1, 1) := by decide +kernel
theorem dX0_way_2 : decode cX0_way 2 = .ok (.invokevirtual 62, 3) := by decide +kernel
theorem dX0_way_5 : decode cX0_way 5 = .ok (.iload_n 2, 1) := by decide +kernel
theorem dX0_way_6 : decode cX0_way 6 = .ok (.ifCond .eq 23, 3) := by decide +kernel
theorem dX0_way_9 : decode cX0_way 9 = .ok (.iload_n 2, 1) := by decide +kernel
theorem dX0_way_10 : decode cX0_way 10 = .ok (.iconst 1, 1) := by decide +kernel
theorem dX0_way_11 : decode cX0_way 11 = .ok (.if_icmp .eq 18, 3) := by decide +kernel
theorem dX0_way_14 : decode cX0_way 14 = .ok (.iload_n 2, 1) := by decide +kernel
theorem dX0_way_15 : decode cX0_way 15 = .ok (.iconst 2, 1) := by decide +kernel
theorem dX0_way_16 : decode cX0_way 16 = .ok (.if_icmp .eq 13, 3) := by decide +kernel
theorem dX0_way_19 : decode cX0_way 19 = .ok (.new 80, 3) := by decide +kernel
theorem dX0_way_22 : decode cX0_way 22 = .ok (.dup, 1) := by decide +kernel
theorem dX0_way_23 : decode cX0_way 23 = .ok (.ldc 85, 2) := by decide +kernel
theorem dX0_way_25 : decode cX0_way 25 = .ok (.invokespecial 84, 3) := by decide +kernel
theorem dX0_way_28 : decode cX0_way 28 = .ok (.athrow, 1) := by decide +kernel
theorem dX0_way_29 : decode cX0_way 29 = .ok (.aload_n 0, 1) := by decide +kernel
theorem dX0_way_30 : decode cX0_way 30 = .ok (.iload_n 1, 1) := by decide +kernel
theorem dX0_way_31 : decode cX0_way 31 = .ok (.invokevirtual 77, 3) := by decide +kernel
theorem dX0_way_34 : decode cX0_way 34 = .ok (.aload_n 0, 1) := by decide +kernel
theorem dX0_way_35 : decode cX0_way 35 = .ok (.getfield 19, 3) := by decide +kernel
theorem dX0_way_38 : decode cX0_way 38 = .ok (.iload_n 1, 1) := by decide +kernel
theorem dX0_way_39 : decode cX0_way 39 = .ok (.iload_n 2, 1) := by decide +kernel
theorem dX0_way_40 : decode cX0_way 40 = .ok (.invokestatic 58, 3) := by decide +kernel
theorem dX0_way_43 : decode cX0_way 43 = .ok (.ireturn, 1) := by decide +kernel
set_option maxRecDepth 20000 in
theorem ggX0_curve_X0_needProfile : GoodIn wsX0_curve wsX0_needProfile := goodIn_ca (goodIn_r _ [5, 6, 7, 8, 32, 33, 34, 35, 36, 37, 38, 39, 40, 41, 42, 43, 44, 45, 46] (by decide +kernel) (by decide +kernel)) (goodIn_sub (fun _ h => List.mem_cons_of_mem _ (List.mem_append_left _ (List.mem_append_right _ h))) (by decide +kernel))
set_option maxRecDepth 20000 in
theorem gX0_curve_X0_needProfile : GoodIn wsX0_curve (wsV RX0 62 RX0 yX0_needProfile wsX0_needProfile) := goodIn_app (goodIn_of _ (by decide +kernel)) ggX0_curve_X0_needProfile
set_option maxRecDepth 20000 in
theorem ggX0_curve_X0_needBand : GoodIn wsX0_curve wsX0_needBand := goodIn_ca (goodIn_r _ [11, 6, 7] (by decide +kernel) (by decide +kernel)) (goodIn_sub (fun _ h => List.mem_cons_of_mem _ (List.mem_append_left _ (List.mem_append_right _ h))) (by decide +kernel))
set_option maxRecDepth 20000 in
theorem gX0_curve_X0_needBand : GoodIn wsX0_curve (va_wsS RX0 66 yX0_needBand wsX0_needBand) := goodIn_app (goodIn_of _ (by decide +kernel)) ggX0_curve_X0_needBand
set_option maxRecDepth 20000 in
theorem ggX0_curve_X0_needValue : GoodIn wsX0_curve wsX0_needValue := goodIn_ca (goodIn_r _ [14, 15, 16] (by decide +kernel) (by decide +kernel)) (goodIn_sub (fun _ h => List.mem_cons_of_mem _ (List.mem_append_right _ h)) (by decide +kernel))
set_option maxRecDepth 20000 in
theorem gX0_curve_X0_needValue : GoodIn wsX0_curve (va_wsS RX0 74 yX0_needValue wsX0_needValue) := goodIn_app (goodIn_of _ (by decide +kernel)) ggX0_curve_X0_needValue
set_option maxRecDepth 20000 in
theorem ggX0_curve_X0_bent : GoodIn wsX0_curve wsX0_bent := goodIn_r _ [20, 21, 22, 23, 4, 24, 25, 26, 27, 28, 29, 30, 31, 32, 33, 34, 35, 36, 37, 38, 39, 40, 41, 42, 43, 44, 45, 46] (by decide +kernel) (by decide +kernel)
set_option maxRecDepth 20000 in
theorem gX0_curve_X0_bent : GoodIn wsX0_curve (wsV RX0 87 RX0 yX0_bent wsX0_bent) := goodIn_app (goodIn_of _ (by decide +kernel)) ggX0_curve_X0_bent
theorem dX0_curve_0 : decode cX0_curve 0 = .ok (.aload_n 0, 1) := by decide +kernel
theorem dX0_curve_1 : decode cX0_curve 1 = .ok (.iload_n 1, 1) := by decide +kernel
theorem dX0_curve_2 : decode cX0_curve 2 = .ok (.invokevirtual 62, 3) := by decide +kernel
theorem dX0_curve_5 : decode cX0_curve 5 = .ok (.iload_n 2, 1) := by decide +kernel
theorem dX0_curve_6 : decode cX0_curve 6 = .ok (.invokestatic 66, 3) := by decide +kernel
theorem dX0_curve_9 : decode cX0_curve 9 = .ok (.iload_n 3, 1) := by decide +kernel
theorem dX0_curve_10 : decode cX0_curve 10 = .ok (.invokestatic 74, 3) := by decide +kernel
theorem dX0_curve_13 : decode cX0_curve 13 = .ok (.aload_n 0, 1) := by decide +kernel
theorem dX0_curve_14 : decode cX0_curve 14 = .ok (.iload_n 1, 1) := by decide +kernel
theorem dX0_curve_15 : decode cX0_curve 15 = .ok (.iload_n 2, 1) := by decide +kernel
theorem dX0_curve_16 : decode cX0_curve 16 = .ok (.iload_n 3, 1) := by decide +kernel
theorem dX0_curve_17 : decode cX0_curve 17 = .ok (.invokevirtual 87, 3) := by decide +kernel
theorem dX0_curve_20 : decode cX0_curve 20 = .ok (.ireturn, 1) := by decide +kernel
set_option maxRecDepth 20000 in
theorem ggX0_taken_X0_needProfile : GoodIn wsX0_taken wsX0_needProfile := goodIn_ca (goodIn_r _ [5, 6, 7, 8, 49, 50, 51, 52, 53, 54, 55, 56, 57, 58, 59, 60, 61, 62, 63] (by decide +kernel) (by decide +kernel)) (goodIn_sub (fun _ h => List.mem_cons_of_mem _ (List.mem_append_left _ (List.mem_append_right _ h))) (by decide +kernel))
set_option maxRecDepth 20000 in
theorem gX0_taken_X0_needProfile : GoodIn wsX0_taken (wsV RX0 62 RX0 yX0_needProfile wsX0_needProfile) := goodIn_app (goodIn_of _ (by decide +kernel)) ggX0_taken_X0_needProfile
set_option maxRecDepth 20000 in
theorem ggX0_taken_X0_needBand : GoodIn wsX0_taken wsX0_needBand := goodIn_ca (goodIn_r _ [11, 6, 7] (by decide +kernel) (by decide +kernel)) (goodIn_sub (fun _ h => List.mem_cons_of_mem _ (List.mem_append_left _ (List.mem_append_right _ h))) (by decide +kernel))
set_option maxRecDepth 20000 in
theorem gX0_taken_X0_needBand : GoodIn wsX0_taken (va_wsS RX0 66 yX0_needBand wsX0_needBand) := goodIn_app (goodIn_of _ (by decide +kernel)) ggX0_taken_X0_needBand
set_option maxRecDepth 20000 in
theorem ggX0_taken_X0_needValue : GoodIn wsX0_taken wsX0_needValue := goodIn_ca (goodIn_r _ [14, 15, 16] (by decide +kernel) (by decide +kernel)) (goodIn_sub (fun _ h => List.mem_cons_of_mem _ (List.mem_append_right _ h)) (by decide +kernel))
set_option maxRecDepth 20000 in
theorem gX0_taken_X0_needValue : GoodIn wsX0_taken (va_wsS RX0 74 yX0_needValue wsX0_needValue) := goodIn_app (goodIn_of _ (by decide +kernel)) ggX0_taken_X0_needValue
set_option maxRecDepth 20000 in
theorem ggX0_taken_X0_take : GoodIn wsX0_taken wsX0_take := goodIn_r _ [20, 21, 22, 23, 24, 25, 26, 27, 28, 29, 30, 31, 32, 4, 33, 34, 35, 36, 37, 38, 39, 40, 41, 42, 43, 44, 45, 46, 47, 48, 49, 50, 51, 52, 53, 54, 55, 56, 57, 58, 59, 60, 61, 62, 63] (by decide +kernel) (by decide +kernel)
set_option maxRecDepth 20000 in
theorem gX0_taken_X0_take : GoodIn wsX0_taken (wsV RX0 91 RX0 yX0_take wsX0_take) := goodIn_app (goodIn_of _ (by decide +kernel)) ggX0_taken_X0_take
theorem dX0_taken_0 : decode cX0_taken 0 = .ok (.aload_n 0, 1) := by decide +kernel
theorem dX0_taken_1 : decode cX0_taken 1 = .ok (.iload_n 1, 1) := by decide +kernel
theorem dX0_taken_2 : decode cX0_taken 2 = .ok (.invokevirtual 62, 3) := by decide +kernel
theorem dX0_taken_5 : decode cX0_taken 5 = .ok (.iload_n 2, 1) := by decide +kernel
theorem dX0_taken_6 : decode cX0_taken 6 = .ok (.invokestatic 66, 3) := by decide +kernel
theorem dX0_taken_9 : decode cX0_taken 9 = .ok (.iload_n 3, 1) := by decide +kernel
theorem dX0_taken_10 : decode cX0_taken 10 = .ok (.invokestatic 74, 3) := by decide +kernel
theorem dX0_taken_13 : decode cX0_taken 13 = .ok (.aload_n 0, 1) := by decide +kernel
theorem dX0_taken_14 : decode cX0_taken 14 = .ok (.iload_n 1, 1) := by decide +kernel
theorem dX0_taken_15 : decode cX0_taken 15 = .ok (.iload_n 2, 1) := by decide +kernel
theorem dX0_taken_16 : decode cX0_taken 16 = .ok (.iload_n 3, 1) := by decide +kernel
theorem dX0_taken_17 : decode cX0_taken 17 = .ok (.invokevirtual 91, 3) := by decide +kernel
theorem dX0_taken_20 : decode cX0_taken 20 = .ok (.ireturn, 1) := by decide +kernel
theorem dX0_chain_0 : decode cX0_chain 0 = .ok (.aload_n 0, 1) := by decide +kernel
theorem dX0_chain_1 : decode cX0_chain 1 = .ok (.getfield 94, 3) := by decide +kernel
theorem dX0_chain_4 : decode cX0_chain 4 = .ok (.bipush 6, 2) := by decide +kernel
theorem dX0_chain_6 : decode cX0_chain 6 = .ok (.if_icmp .lt 13, 3) := by decide +kernel
theorem dX0_chain_9 : decode cX0_chain 9 = .ok (.new 47, 3) := by decide +kernel
theorem dX0_chain_12 : decode cX0_chain 12 = .ok (.dup, 1) := by decide +kernel
theorem dX0_chain_13 : decode cX0_chain 13 = .ok (.ldc 97, 2) := by decide +kernel
theorem dX0_chain_15 : decode cX0_chain 15 = .ok (.invokespecial 51, 3) := by decide +kernel
theorem dX0_chain_18 : decode cX0_chain 18 = .ok (.athrow, 1) := by decide +kernel
theorem dX0_chain_19 : decode cX0_chain 19 = .ok (.aload_n 0, 1) := by decide +kernel
theorem dX0_chain_20 : decode cX0_chain 20 = .ok (.getfield 94, 3) := by decide +kernel
theorem dX0_chain_23 : decode cX0_chain 23 = .ok (.istore_n 1, 1) := by decide +kernel
theorem dX0_chain_24 : decode cX0_chain 24 = .ok (.aload_n 0, 1) := by decide +kernel
theorem dX0_chain_25 : decode cX0_chain 25 = .ok (.dup, 1) := by decide +kernel
theorem dX0_chain_26 : decode cX0_chain 26 = .ok (.getfield 94, 3) := by decide +kernel
theorem dX0_chain_29 : decode cX0_chain 29 = .ok (.iconst 1, 1) := by decide +kernel
theorem dX0_chain_30 : decode cX0_chain 30 = .ok (.iadd, 1) := by decide +kernel
theorem dX0_chain_31 : decode cX0_chain 31 = .ok (.putfield 94, 3) := by decide +kernel
theorem dX0_chain_34 : decode cX0_chain 34 = .ok (.iload_n 1, 1) := by decide +kernel
theorem dX0_chain_35 : decode cX0_chain 35 = .ok (.ireturn, 1) := by decide +kernel
set_option maxRecDepth 20000 in
theorem ggX0_add_X0_needChain : GoodIn wsX0_add wsX0_needChain := goodIn_ca (goodIn_r _ [9, 10, 11, 12, 32, 33, 34, 35, 36, 37, 38, 39, 40, 41, 42, 43, 44, 45, 46] (by decide +kernel) (by decide +kernel)) (goodIn_sub (fun _ h => List.mem_cons_of_mem _ (List.mem_append_right _ h)) (by decide +kernel))
set_option maxRecDepth 20000 in
theorem gX0_add_X0_needChain : GoodIn wsX0_add (wsV RX0 99 RX0 yX0_needChain wsX0_needChain) := goodIn_app (goodIn_of _ (by decide +kernel)) ggX0_add_X0_needChain
set_option maxRecDepth 20000 in
theorem ggX0_add_X0_needProfile : GoodIn wsX0_add wsX0_needProfile := goodIn_ca (goodIn_r _ [16, 10, 11, 17, 32, 33, 34, 35, 36, 37, 38, 39, 40, 41, 42, 43, 44, 45, 46] (by decide +kernel) (by decide +kernel)) (goodIn_sub (fun _ h => List.mem_cons_of_mem _ (List.mem_append_right _ h)) (by decide +kernel))
set_option maxRecDepth 20000 in
theorem gX0_add_X0_needProfile : GoodIn wsX0_add (wsV RX0 62 RX0 yX0_needProfile wsX0_needProfile) := goodIn_app (goodIn_of _ (by decide +kernel)) ggX0_add_X0_needProfile
set_option maxRecDepth 20000 in
theorem ggX0_add_X0_needFreeChain : GoodIn wsX0_add wsX0_needFreeChain := goodIn_ca (goodIn_r _ [21, 1, 2, 22, 23, 24, 8, 25, 32, 33, 34, 35, 36, 37, 38, 39, 40, 41, 42, 43, 44, 45, 46] (by decide +kernel) (by decide +kernel)) (goodIn_sub (fun _ h => List.mem_cons_of_mem _ (List.mem_append_left _ (List.mem_append_right _ h))) (by decide +kernel))
set_option maxRecDepth 20000 in
theorem gX0_add_X0_needFreeChain : GoodIn wsX0_add (wsV RX0 102 RX0 yX0_needFreeChain wsX0_needFreeChain) := goodIn_app (goodIn_of _ (by decide +kernel)) ggX0_add_X0_needFreeChain
set_option maxRecDepth 20000 in
theorem ggX0_add_X0_read : GoodIn wsX0_add wsX0_read := goodIn_r _ [28] (by decide +kernel) (by decide +kernel)
set_option maxRecDepth 20000 in
theorem gX0_add_X0_read : GoodIn wsX0_add (va_wsS RX0 105 yX0_read wsX0_read) := goodIn_app (goodIn_of _ (by decide +kernel)) ggX0_add_X0_read
set_option maxRecDepth 20000 in
theorem ggX0_add_X0_swap : GoodIn wsX0_add wsX0_swap := goodIn_r _ [31] (by decide +kernel) (by decide +kernel)
set_option maxRecDepth 20000 in
theorem gX0_add_X0_swap : GoodIn wsX0_add (va_wsS RX0 58 yX0_swap wsX0_swap) := goodIn_app (goodIn_of _ (by decide +kernel)) ggX0_add_X0_swap
theorem dX0_add_0 : decode cX0_add 0 = .ok (.aload_n 0, 1) := by decide +kernel
theorem dX0_add_1 : decode cX0_add 1 = .ok (.iload_n 1, 1) := by decide +kernel
theorem dX0_add_2 : decode cX0_add 2 = .ok (.invokevirtual 99, 3) := by decide +kernel
theorem dX0_add_5 : decode cX0_add 5 = .ok (.aload_n 0, 1) := by decide +kernel
theorem dX0_add_6 : decode cX0_add 6 = .ok (.iload_n 2, 1) := by decide +kernel
theorem dX0_add_7 : decode cX0_add 7 = .ok (.invokevirtual 62, 3) := by decide +kernel
theorem dX0_add_10 : decode cX0_add 10 = .ok (.aload_n 0, 1) := by decide +kernel
theorem dX0_add_11 : decode cX0_add 11 = .ok (.iload_n 1, 1) := by decide +kernel
theorem dX0_add_12 : decode cX0_add 12 = .ok (.invokevirtual 102, 3) := by decide +kernel
theorem dX0_add_15 : decode cX0_add 15 = .ok (.aload_n 0, 1) := by decide +kernel
theorem dX0_add_16 : decode cX0_add 16 = .ok (.getfield 25, 3) := by decide +kernel
theorem dX0_add_19 : decode cX0_add 19 = .ok (.iload_n 1, 1) := by decide +kernel
theorem dX0_add_20 : decode cX0_add 20 = .ok (.invokestatic 105, 3) := by decide +kernel
theorem dX0_add_23 : decode cX0_add 23 = .ok (.istore_n 3, 1) := by decide +kernel
theorem dX0_add_24 : decode cX0_add 24 = .ok (.iload_n 3, 1) := by decide +kernel
theorem dX0_add_25 : decode cX0_add 25 = .ok (.bipush 6, 2) := by decide +kernel
theorem dX0_add_27 : decode cX0_add 27 = .ok (.if_icmp .lt 13, 3) := by decide +kernel
theorem dX0_add_30 : decode cX0_add 30 = .ok (.new 47, 3) := by decide +kernel
theorem dX0_add_33 : decode cX0_add 33 = .ok (.dup, 1) := by decide +kernel
theorem dX0_add_34 : decode cX0_add 34 = .ok (.ldc 109, 2) := by decide +kernel
theorem dX0_add_36 : decode cX0_add 36 = .ok (.invokespecial 51, 3) := by decide +kernel
theorem dX0_add_39 : decode cX0_add 39 = .ok (.athrow, 1) := by decide +kernel
theorem dX0_add_40 : decode cX0_add 40 = .ok (.aload_n 0, 1) := by decide +kernel
theorem dX0_add_41 : decode cX0_add 41 = .ok (.getfield 22, 3) := by decide +kernel
theorem dX0_add_44 : decode cX0_add 44 = .ok (.iload_n 1, 1) := by decide +kernel
theorem dX0_add_45 : decode cX0_add 45 = .ok (.bipush 6, 2) := by decide +kernel
theorem dX0_add_47 : decode cX0_add 47 = .ok (.imul, 1) := by decide +kernel
theorem dX0_add_48 : decode cX0_add 48 = .ok (.iload_n 3, 1) := by decide +kernel
theorem dX0_add_49 : decode cX0_add 49 = .ok (.iadd, 1) := by decide +kernel
theorem dX0_add_50 : decode cX0_add 50 = .ok (.iload_n 2, 1) := by decide +kernel
theorem dX0_add_51 : decode cX0_add 51 = .ok (.invokestatic 58, 3) := by decide +kernel
theorem dX0_add_54 : decode cX0_add 54 = .ok (.pop, 1) := by decide +kernel
theorem dX0_add_55 : decode cX0_add 55 = .ok (.aload_n 0, 1) := by decide +kernel
theorem dX0_add_56 : decode cX0_add 56 = .ok (.getfield 25, 3) := by decide +kernel
theorem dX0_add_59 : decode cX0_add 59 = .ok (.iload_n 1, 1) := by decide +kernel
theorem dX0_add_60 : decode cX0_add 60 = .ok (.iload_n 3, 1) := by decide +kernel
theorem dX0_add_61 : decode cX0_add 61 = .ok (.iconst 1, 1) := by decide +kernel
theorem dX0_add_62 : decode cX0_add 62 = .ok (.iadd, 1) := by decide +kernel
theorem dX0_add_63 : decode cX0_add 63 = .ok (.invokestatic 58, 3) := by decide +kernel
theorem dX0_add_66 : decode cX0_add 66 = .ok (.pop, 1) := by decide +kernel
theorem dX0_add_67 : decode cX0_add 67 = .ok (.iload_n 3, 1) := by decide +kernel
theorem dX0_add_68 : decode cX0_add 68 = .ok (.iconst 1, 1) := by decide +kernel
theorem dX0_add_69 : decode cX0_add 69 = .ok (.iadd, 1) := by decide +kernel
theorem dX0_add_70 : decode cX0_add 70 = .ok (.ireturn, 1) := by decide +kernel
set_option maxRecDepth 20000 in
theorem ggX0_drop_X0_needChain : GoodIn wsX0_drop wsX0_needChain := goodIn_ca (goodIn_r _ [9, 10, 11, 12, 27, 28, 29, 30, 31, 32, 33, 34, 35, 36, 37, 38, 39, 40, 41] (by decide +kernel) (by decide +kernel)) (goodIn_sub (fun _ h => List.mem_cons_of_mem _ (List.mem_append_right _ h)) (by decide +kernel))
set_option maxRecDepth 20000 in
theorem gX0_drop_X0_needChain : GoodIn wsX0_drop (wsV RX0 99 RX0 yX0_needChain wsX0_needChain) := goodIn_app (goodIn_of _ (by decide +kernel)) ggX0_drop_X0_needChain
set_option maxRecDepth 20000 in
theorem ggX0_drop_X0_needFreeChain : GoodIn wsX0_drop wsX0_needFreeChain := goodIn_ca (goodIn_r _ [16, 1, 2, 17, 18, 19, 8, 20, 27, 28, 29, 30, 31, 32, 33, 34, 35, 36, 37, 38, 39, 40, 41] (by decide +kernel) (by decide +kernel)) (goodIn_sub (fun _ h => List.mem_cons_of_mem _ (List.mem_append_left _ (List.mem_append_right _ h))) (by decide +kernel))
set_option maxRecDepth 20000 in
theorem gX0_drop_X0_needFreeChain : GoodIn wsX0_drop (wsV RX0 102 RX0 yX0_needFreeChain wsX0_needFreeChain) := goodIn_app (goodIn_of _ (by decide +kernel)) ggX0_drop_X0_needFreeChain
set_option maxRecDepth 20000 in
theorem ggX0_drop_X0_read : GoodIn wsX0_drop wsX0_read := goodIn_r _ [23] (by decide +kernel) (by decide +kernel)
set_option maxRecDepth 20000 in
theorem gX0_drop_X0_read : GoodIn wsX0_drop (va_wsS RX0 105 yX0_read wsX0_read) := goodIn_app (goodIn_of _ (by decide +kernel)) ggX0_drop_X0_read
set_option maxRecDepth 20000 in
theorem ggX0_drop_X0_swap : GoodIn wsX0_drop wsX0_swap := goodIn_r _ [26] (by decide +kernel) (by decide +kernel)
set_option maxRecDepth 20000 in
theorem gX0_drop_X0_swap : GoodIn wsX0_drop (va_wsS RX0 58 yX0_swap wsX0_swap) := goodIn_app (goodIn_of _ (by decide +kernel)) ggX0_drop_X0_swap
theorem dX0_drop_0 : decode cX0_drop 0 = .ok (.aload_n 0, 1) := by decide +kernel
theorem dX0_drop_1 : decode cX0_drop 1 = .ok (.iload_n 1, 1) := by decide +kernel
theorem dX0_drop_2 : decode cX0_drop 2 = .ok (.invokevirtual 99, 3) := by decide +kernel
theorem dX0_drop_5 : decode cX0_drop 5 = .ok (.aload_n 0, 1) := by decide +kernel
theorem dX0_drop_6 : decode cX0_drop 6 = .ok (.iload_n 1, 1) := by decide +kernel
theorem dX0_drop_7 : decode cX0_drop 7 = .ok (.invokevirtual 102, 3) := by decide +kernel
theorem dX0_drop_10 : decode cX0_drop 10 = .ok (.aload_n 0, 1) := by decide +kernel
theorem dX0_drop_11 : decode cX0_drop 11 = .ok (.getfield 25, 3) := by decide +kernel
theorem dX0_drop_14 : decode cX0_drop 14 = .ok (.iload_n 1, 1) := by decide +kernel
theorem dX0_drop_15 : decode cX0_drop 15 = .ok (.invokestatic 105, 3) := by decide +kernel
theorem dX0_drop_18 : decode cX0_drop 18 = .ok (.istore_n 2, 1) := by decide +kernel
theorem dX0_drop_19 : decode cX0_drop 19 = .ok (.iload_n 2, 1) := by decide +kernel
theorem dX0_drop_20 : decode cX0_drop 20 = .ok (.ifCond .gt 13, 3) := by decide +kernel
theorem dX0_drop_23 : decode cX0_drop 23 = .ok (.new 47, 3) := by decide +kernel
theorem dX0_drop_26 : decode cX0_drop 26 = .ok (.dup, 1) := by decide +kernel
theorem dX0_drop_27 : decode cX0_drop 27 = .ok (.ldc 111, 2) := by decide +kernel
theorem dX0_drop_29 : decode cX0_drop 29 = .ok (.invokespecial 51, 3) := by decide +kernel
theorem dX0_drop_32 : decode cX0_drop 32 = .ok (.athrow, 1) := by decide +kernel
theorem dX0_drop_33 : decode cX0_drop 33 = .ok (.aload_n 0, 1) := by decide +kernel
theorem dX0_drop_34 : decode cX0_drop 34 = .ok (.getfield 25, 3) := by decide +kernel
theorem dX0_drop_37 : decode cX0_drop 37 = .ok (.iload_n 1, 1) := by decide +kernel
theorem dX0_drop_38 : decode cX0_drop 38 = .ok (.iload_n 2, 1) := by decide +kernel
theorem dX0_drop_39 : decode cX0_drop 39 = .ok (.iconst 1, 1) := by decide +kernel
theorem dX0_drop_40 : decode cX0_drop 40 = .ok (.isub, 1) := by decide +kernel
theorem dX0_drop_41 : decode cX0_drop 41 = .ok (.invokestatic 58, 3) := by decide +kernel
theorem dX0_drop_44 : decode cX0_drop 44 = .ok (.pop, 1) := by decide +kernel
theorem dX0_drop_45 : decode cX0_drop 45 = .ok (.aload_n 0, 1) := by decide +kernel
theorem dX0_drop_46 : decode cX0_drop 46 = .ok (.getfield 22, 3) := by decide +kernel
theorem dX0_drop_49 : decode cX0_drop 49 = .ok (.iload_n 1, 1) := by decide +kernel
theorem dX0_drop_50 : decode cX0_drop 50 = .ok (.bipush 6, 2) := by decide +kernel
theorem dX0_drop_52 : decode cX0_drop 52 = .ok (.imul, 1) := by decide +kernel
theorem dX0_drop_53 : decode cX0_drop 53 = .ok (.iload_n 2, 1) := by decide +kernel
theorem dX0_drop_54 : decode cX0_drop 54 = .ok (.iadd, 1) := by decide +kernel
theorem dX0_drop_55 : decode cX0_drop 55 = .ok (.iconst 1, 1) := by decide +kernel
theorem dX0_drop_56 : decode cX0_drop 56 = .ok (.isub, 1) := by decide +kernel
theorem dX0_drop_57 : decode cX0_drop 57 = .ok (.invokestatic 105, 3) := by decide +kernel
theorem dX0_drop_60 : decode cX0_drop 60 = .ok (.ireturn, 1) := by decide +kernel
set_option maxRecDepth 20000 in
theorem ggX0_through_X0_needChain : GoodIn wsX0_through wsX0_needChain := goodIn_ca (goodIn_r _ [5, 6, 7, 8, 55, 56, 57, 58, 59, 60, 61, 62, 63, 64, 65, 66, 67, 68, 69] (by decide +kernel) (by decide +kernel)) (goodIn_sub (fun _ h => List.mem_cons_of_mem _ (List.mem_append_left _ (List.mem_append_right _ h))) (by decide +kernel))
set_option maxRecDepth 20000 in
theorem gX0_through_X0_needChain : GoodIn wsX0_through (wsV RX0 99 RX0 yX0_needChain wsX0_needChain) := goodIn_app (goodIn_of _ (by decide +kernel)) ggX0_through_X0_needChain
set_option maxRecDepth 20000 in
theorem ggX0_through_X0_needBand : GoodIn wsX0_through wsX0_needBand := goodIn_ca (goodIn_r _ [11, 6, 7] (by decide +kernel) (by decide +kernel)) (goodIn_sub (fun _ h => List.mem_cons_of_mem _ (List.mem_append_left _ (List.mem_append_right _ h))) (by decide +kernel))
set_option maxRecDepth 20000 in
theorem gX0_through_X0_needBand : GoodIn wsX0_through (va_wsS RX0 66 yX0_needBand wsX0_needBand) := goodIn_app (goodIn_of _ (by decide +kernel)) ggX0_through_X0_needBand
set_option maxRecDepth 20000 in
theorem ggX0_through_X0_needValue : GoodIn wsX0_through wsX0_needValue := goodIn_ca (goodIn_r _ [14, 15, 16] (by decide +kernel) (by decide +kernel)) (goodIn_sub (fun _ h => List.mem_cons_of_mem _ (List.mem_append_right _ h)) (by decide +kernel))
set_option maxRecDepth 20000 in
theorem gX0_through_X0_needValue : GoodIn wsX0_through (va_wsS RX0 74 yX0_needValue wsX0_needValue) := goodIn_app (goodIn_of _ (by decide +kernel)) ggX0_through_X0_needValue
set_option maxRecDepth 20000 in
theorem ggX0_through_X0_pass : GoodIn wsX0_through wsX0_pass := goodIn_r _ [20, 21, 22, 23, 24, 4, 25, 26, 27, 28, 29, 30, 31, 32, 33, 34, 35, 36, 37, 38, 39, 40, 41, 42, 43, 44, 45, 46, 47, 48, 49, 50, 51, 52, 53, 54, 55, 56, 57, 58, 59, 60, 61, 62, 63, 64, 65, 66, 67, 68, 69] (by decide +kernel) (by decide +kernel)
set_option maxRecDepth 20000 in
theorem gX0_through_X0_pass : GoodIn wsX0_through (wsV RX0 113 RX0 yX0_pass wsX0_pass) := goodIn_app (goodIn_of _ (by decide +kernel)) ggX0_through_X0_pass
theorem dX0_through_0 : decode cX0_through 0 = .ok (.aload_n 0, 1) := by decide +kernel
theorem dX0_through_1 : decode cX0_through 1 = .ok (.iload_n 1, 1) := by decide +kernel
